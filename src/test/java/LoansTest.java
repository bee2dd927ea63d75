/** FAULT 4 and what is in force (Terms IV); promises 10, 11 and 12. */
public final class LoansTest {
    private static final String SOME = "record P { a: int, b: int } record T told { n: int } choice C { E, N(box C), V(int, int) } "
        + "fn r(a: & int) { } fn s(a: &! int) { } fn two(a: &! int, b: & int) { } fn first(a: & int, b: & int) -> & int of a { return a; } "
        + "fn sole(a: &! int, b: & int) -> &! int of a { return a; } fn as(a: &! int) -> & int of a { return & a^; } ";

    public static void main(String[] args) {
        plain();
        kinds();
        values();
        calls();
        ends();
        given();
        matches();
        results();
        asked();
        House.end("LoansTest");
    }

    private static String main(String body) {
        return SOME + "fn main() { " + body + " }";
    }

    private static void wrong(String body) {
        House.faultAt(4, main(body));
    }

    private static void taken(String body) {
        House.taken(main(body));
    }

    private static void plain() {
        wrong("let a = 1; let b = $& a; @a = 2; print b^;");
        taken("let a = 1; let b = & a; print b^; a = 2;");
        taken("let a = 1; let b = & a; print a; print b^;");
        wrong("let a = 1; let b = $&! a; print @a; print b^;");
        wrong("let a = 1; let b = $&! a; let c = & @a; print b^;");
        wrong("let a = 1; let b = $& a; let c = &! @a; print b^;");
        wrong("let a = row int [1]; let b = $& a; push(@a, 2); print b^[0];");
        wrong("let a = row int [1]; let b = $& a[0]; pop(@a); print b^;");
        wrong("let a = row int [1]; let b = $&! a[0]; print len(@a); print b^;");
        wrong("let a = row int [1]; let b = $& a; let c = @a; print b^[0];");
        wrong("let a = 1; let b = $& a; swap(@a, 2); print b^;");
        // Used on some way is enough, and in a later turn too.
        wrong("let a = 1; let b = $& a; @a = 2; if read == 1 { print b^; }");
        wrong("let a = 1; let b = $& a; while read == 1 { print b^; @a = 2; }");
        taken("let a = 1; let b = & a; while read == 1 { print b^; b = & a; } a = 2;");
        taken("let a = 1; let b = & a; while read == 1 { a = 2; b = & a; print b^; }");
        taken("let a = 1; let b = & a; a = 2; return; print b^;");
        taken("let a = 1; let b = & a; a = 2; fail; print b^;");
    }

    private static void kinds() {
        // A place and one that it begins.
        taken("let a = new P { a: 1, b: 2 }; let b = &! a.a; a.b = 3; print b^;");
        wrong("let a = new P { a: 1, b: 2 }; let b = $&! a.a; print @a.a; print b^;");
        wrong("let a = new P { a: 1, b: 2 }; let b = $& a.a; @a = new P { a: 1, b: 2 }; print b^;");
        wrong("let a = new P { a: 1, b: 2 }; let b = $& a; @a.b = 3; print b^.a;");
        wrong("let a = row int [1, 2]; let b = $&! a[0]; @a[1] = 3; print b^;");
        wrong("let a = box(1); let b = $& a^; @a = box(2); print b^;");
        wrong("let a = box(1); let b = $& a^; let c = @a; print b^;");
        taken("let a = box(1); let b = & a^; print a^; print b^;");
        // Places behind a reference: the variable may be given anew, but not moved.
        taken("let a = 1; let b = 2; let c = &! a; let d = &! c^; c = &! b; d^ = 3; c^ = 4; print a;");
        wrong("let a = 1; let c = &! a; let d = $&! c^; let e = @c; d^ = 3;");
        wrong("let a = 1; let c = &! a; let d = $&! c^; @c^ = 2; d^ = 3;");
        wrong("let a = 1; let c = $&! a; let d = &! c^; @a = 2; d^ = 3;");
        // Through the ^ of a & there is no LOAN.
        taken("let a = 1; let b = & a; let c = & b^; let d = b; print c^ + d^ + b^;");
        wrong("let a = 1; let b = $& a; let c = & b^; @a = 3; print c^;");
        // The least LOAN of those that clash tells the other place.
        wrong("let a = 1; let b = $& a; let c = & a; @a = 3; print b^ + c^;");
        wrong("let a = 1; let b = & a; let c = $& a; @a = 3; print c^;");
    }

    private static void values() {
        wrong("let a = 1; two($&! a, & @a);");
        wrong("let a = 1; two($&! a, first(& @a, & a));");
        wrong("let a = row int [1]; let b = 1; two($&! a[0], first(& b, & @a[0]));");
        taken("let a = 1; s(&! a); r(& a); first(& a, & a);");
        taken("let a = row int [1]; print a[0] + len(a); a[0] = a[0] + 1;");
        // The value of an exp is used by what it is for, then it is no more.
        taken("let a = 1; let b = first(& a, & a); a = b^;");
        taken("let a = 1; let b = & a; b = first(b, b); print b^; a = 2;");
        wrong("let a = 1; let c = 1; two(sole($&! a, & c), & @a);");
        taken("let a = 1; let c = 1; two(sole(&! c, & a), & a);");
        wrong("let a = 1; let b = &! a; two($&! b^, & @b^);");
        wrong("let a = 1; let b = $&! a; two(b, & @a);");
    }

    private static void calls() {
        taken("let a = 1; let b = 2; let c = first(& a, & b); b = 3; print c^;");
        wrong("let a = 1; let b = 2; let c = first($& a, & b); @a = 3; print c^;");
        // What comes of a &! is held as that.
        wrong("let a = 1; let c = as($&! a); print @a; print c^;");
        taken("let a = 1; let c = as(&! a); print c^; print a;");
        wrong("let a = 1; let b = 2; let c = first($& a, & b); let d = c; c = & b; @a = 4; print d^;");
    }

    private static void ends() {
        wrong("let c = 1; let b = & c; if true { let a = 1; b = $& a; @} print b^;");
        taken("let b: & int; if true { let a = 1; b = & a; print b^; } ");
        wrong("let c = 1; let b = & c; while read == 1 { let a = 1; b = $& a; @break; } print b^;");
        wrong("let c = 1; let b = & c; while read == 1 { let a = 1; b = $& a; @continue; } print b^;");
        wrong("let c = 1; let b = & c; while read == 1 { print b^; let a = 1; b = $& a; @}");
        House.faultAt(4, "fn f(a: int) -> & int { @return $& a; } fn main() { }");
        House.faultAt(4, "fn f(a: int) -> & int { let b = box(a); if true { @return $& b^; } fail; } fn main() { }");
        House.faultAt(4, "choice C { A(int) } fn f(c: C) -> & int { match c { A(b) => { @return $& b; } } } fn main() { }");
        // A variable that is a reference has no END that clashes.
        House.taken("fn f(a: &! int) -> & int of a { let b = &! a^; return & b^; } fn main() { }");
        // Moved away or not, it ENDS.
        wrong("let c = new T { n: 1 }; let b = & c; if true { let a = new T { n: 1 }; b = $& a; @} print b^.n;");
        wrong("let a = 1; let b = & a; while true { let c = a; b = $& c; if read == 1 { @break; } b = & a; } print b^;");
    }

    private static void given() {
        // The cursor: when c is given, LOANS through its ^ go.
        taken("let l = new C.E; let c = &! l; while true { match &! c^ { N(b) => { c = &! b^^; } _ => { break; } } } c^ = new C.E;");
        wrong("let l = new C.E; let e = new C.E; let c = &! l; let d = &! e; match $&! c^ { N(b) => { d = &! b^^; @c^ = new C.E; } _ => { } } "
            + "d^ = new C.E;");
        // A variable anew in each turn.
        taken("let a = 1; while read == 1 { let b = &! a; let c = &! b^; c^ = 2; b^ = 3; }");
        // A bare let takes as well.
        taken("let a = 1; let c = & a; while read == 1 { print c^; let b: & int; b = & a; c = & b^; }");
        // What a variable held before is held no more.
        taken("let a = 1; let b = 2; let c = & a; c = & b; a = 3; print c^;");
        wrong("let a = 1; let b = 2; let c = $& a; if read == 1 { c = & b; } @a = 3; print c^;");
    }

    private static void matches() {
        wrong("let c = new C.V(1, 2); match $& c { V(a, b) => { @c = new C.E; print a^; } _ => { } }");
        taken("let c = new C.V(1, 2); match & c { V(a, b) => { c = new C.E; } _ => { } }");
        taken("let c = new C.V(1, 2); match & c { V(a, b) => { print a^; c = new C.E; } _ => { } }");
        taken("let c = new C.V(1, 2); match &! c { V(a, b) => { a^ = 1; b^ = 2; a^ = b^; } _ => { } }");
        wrong("let c = new C.V(1, 2); match $&! c { V(a, _) => { match & @c { _ => { } } a^ = 3; } _ => { } }");
        wrong("let c = new C.V(1, 2); let d = $& c; match d { V(a, b) => { @c = new C.E; print b^; } _ => { } }");
    }

    private static void results() {
        House.faultAt(4, "fn f($a: & int) -> & int { @return a; } fn main() { }");
        House.faultAt(4, "fn f(a: & int, $b: & int) -> & int of a { if read == 1 { return a; } @return b; } fn main() { }");
        House.faultAt(4, "fn f($a: & int, b: & int) -> & int { if read == 1 { a = b; } @return a; } fn main() { }");
        House.faultAt(4, "fn f(a: & int, $b: & int) -> & int of a { if read == 1 { a = b; } @return a; } fn main() { }");
        House.taken("fn f(a: & int, b: & int) -> & int of b { a = b; return a; } fn main() { }");
        House.faultAt(4, "fn f($a: & box int) -> & int { @return & a^^; } fn main() { }");
        House.faultAt(4, "fn f($a: &! box int) -> &! int { @return &! a^^; } fn main() { }");
        // At one place a LOAN goes ahead of a param.
        House.faultAt(4, "fn f(a: & int) -> & int { let b = 1; if read == 1 { a = $& b; } @return a; } fn main() { }");
        House.taken("fn f(a: & int) -> & int { fail; return a; } fn main() { }");
        House.taken("fn f(a: & int) -> int { return a^; } fn main() { }");
        // The least place, in whichever fn.
        House.faultAt(4, "fn f() { let a = 1; let b = $& a; @a = 2; print b^; } fn g(a: & int) -> & int { return a; } fn main() { }");
    }

    private static void asked() {
        String text = "fn main() { let a = 1; let b = & a; let c = & b^; let d = 5; let e = &! d; print b^ + c^; e^ = 3; print d; while a < 2 { "
            + "let f = &! a; f^ = f^ + 1; } } fn g(a: &! int) { let b = &! a^; b^ = 1; }";
        House house = House.taken(text);
        LoanHouse x = house.it;
        House.due("LOANS", x.count(3), 4);
        House.due("LOANS of main", x.function(0, 3), 3);
        House.due("LOANS of g", x.function(1, 3), 1);
        int[] signs = {text.indexOf("& a;"), text.indexOf("&! d"), text.indexOf("&! a;"), text.indexOf("&! a^;")};
        int[] soles = {0, 1, 1, 1};
        int[] places = {0, 2, 8, 11};
        int[] acts = {3, 2, 1, 0};
        // By text: a, b^, d, b^, c^, e^, d, a, a, f^, f^, a^, b^. Ahead of = its exp acts.
        String[] force = {"0111000000000", "0001100000000", "0000000000100", "0000000000000"};
        House.due("places", x.count(2), 13);
        for (int i = 0; i < 4; i++) {
            House.due("sign of LOAN " + i, x.loan(i, 0), signs[i]);
            House.due("kind of LOAN " + i, x.loan(i, 1), soles[i]);
            House.due("place of LOAN " + i, x.loan(i, 2), places[i]);
            House.due("acts of LOAN " + i, x.loan(i, 3), acts[i]);
            for (int k = 0; k < 13; k++) {
                House.due("force " + i + " at " + k, x.force(i, k), force[i].charAt(k) - '0');
            }
        }
        int[] inForce = {0, 1, 1, 2, 1, 0, 0, 0, 0, 0, 1, 0, 0};
        for (int k = 0; k < 13; k++) {
            House.due("LOANS at " + k, x.place(k, 3), inForce[k]);
        }
        House.due("no LOAN", x.loan(4, 0), -1);
        House.due("no LOAN", x.loan(-1, 0), -1);
        House.due("nothing of a LOAN", x.loan(0, 4), -1);
        House.due("no force", x.force(4, 0), -1);
        House.due("no force", x.force(0, 13), -1);
        House.due("no force", x.force(-1, 0), -1);
        House.due("no force", x.force(0, -1), -1);
        House.due("calls", House.taken(main("let a = 1; let b = 2; two(&! a, first(& b, & b));")).it.place(5, 3), 2);
    }
}
