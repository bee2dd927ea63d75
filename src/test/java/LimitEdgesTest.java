/** Terms II, NAMES and LIMITS: each limit one below it, at it, one beyond it and two beyond it (promises 4, 9, 13, 14). */
public final class LimitEdgesTest {
    private static final String PAIR = "record P { a: int, b: int } ";

    public static void main(String[] args) {
        declared();
        fields();
        variants();
        variantTypes();
        elements();
        functions();
        params();
        variables();
        leaves();
        leavesOf();
        loans();
        loansOf();
        places();
        sizes();
        withinItself();
        parts();
        unlike();
        scopes();
        mains();
        House.end("LimitEdgesTest");
    }

    private static void wrong(String marked) {
        House.faultAt(2, marked);
    }

    private static LoanHouse taken(String text) {
        return House.taken(text).it;
    }

    private static String main(String body) {
        return "fn main() { " + body + " }";
    }

    /** The part so often, with its number for each #, and with the sign between. */
    private static String list(String part, String between, int from, int to) {
        StringBuilder all = new StringBuilder();
        for (int i = from; i <= to; i++) {
            all.append(i == from ? "" : between).append(part.replace("#", "" + i));
        }
        return all.toString();
    }

    private static String each(String part, int from, int to) {
        return list(part, "", from, to);
    }

    private static void declared() {
        String most = each("record R# { } choice C# { A } ", 1, 12);
        House.due("23", taken(most.substring(0, most.lastIndexOf("choice")) + main("")).count(0), 23);
        House.due("24", taken(most + main("")).count(0), 24);
        House.due("24 among functions", taken(each("record R# { } fn f#() { } choice C# { A } ", 1, 12) + main("")).count(0), 24);
        wrong(most + "@record R { } " + main(""));
        wrong(most + "@choice C { A } " + main(""));
        wrong(most + main("") + " @record R told { a: int } choice C { A }");
        wrong(main("") + most + "fn f() { } @choice C { A } record R { } fn g() { }");
        LoanHouse x = taken(most + main(""));
        for (int i = 0; i < 24; i++) {
            House.due("size " + i, x.size(i), 1);
        }
        House.due("size 24", x.size(24), -1);
        // A fn that tells what is one too many goes ahead of it, but breaks nothing.
        wrong("fn f(a: R) { } " + most + "@record R { } " + main(""));
    }

    /** Nine fields with cells are too many for a record's SIZE; S has none, as what is within it has no type. */
    private static void fields() {
        House.due("8", taken("record R { " + list("f#: int", ", ", 1, 8) + " } " + main("")).size(0), 8);
        wrong("record @R { " + list("f#: int", ", ", 1, 9) + " } " + main(""));
        wrong("record @R { " + list("f#: int", ", ", 1, 10) + " } " + main(""));
        wrong("record @R { " + list("f#: int", ", ", 1, 11) + " } " + main(""));
        String most = list("f#: int", ", ", 1, 8) + ", s: S";
        wrong("record R { " + most + " } record S { x: @X } " + main(""));
        wrong("record R { " + most + ", t: S } record S { x: @X } " + main(""));
        wrong("record R { " + most + ", t: S, @u: S } record S { x: X } " + main(""));
        wrong("record R { " + most + ", t: S, @u: S, v: S } record S { x: X } " + main(""));
        wrong("record R { " + most + ", t: S, @u: int } record S { x: X } " + main(""));
    }

    private static void variants() {
        for (int count = 1; count <= 10; count++) {
            House.due("variants", taken("choice C { " + list("v#", ", ", 1, count) + " } " + main("let a = new C.v" + count + ";")).size(0), 1);
        }
        String most = "choice C { " + list("v#", ", ", 1, 10);
        wrong(most + ", @v11 } " + main(""));
        wrong(most + ", @v11(int, bool) } " + main(""));
        wrong(most + ", @v11, v12, v13(int) } " + main(""));
        taken(most + " } " + most.replace("C", "D") + " } " + main(""));
    }

    private static void variantTypes() {
        for (int count = 1; count <= 6; count++) {
            House.due("types", taken("choice C { A, B(" + list("int", ", ", 1, count) + ") } " + main("")).size(0), count + 1);
        }
        String most = "choice C { A(" + list("int", ", ", 1, 6);
        wrong(most + ", @int) } " + main(""));
        wrong(most + ", @box row bool) } " + main(""));
        wrong(most + "), B(" + list("bool", ", ", 1, 6) + ", @bool) } " + main(""));
        taken(most + "), B(" + list("bool", ", ", 1, 6) + ") } " + main(""));
        // The SIZE of six wide ones is broken at the name, ahead of the seventh.
        wrong("choice @C { A(" + list("P", ", ", 1, 7) + ") } " + PAIR + main(""));
    }

    private static void elements() {
        for (int count : new int[] {0, 1, 31, 32}) {
            House.runs(main("let r = row int [" + list("#", ", ", 1, count) + "]; print len(r);"), 0, "" + count);
        }
        String most = "let r = row int [" + list("#", ", ", 1, 32);
        wrong(main(most + ", @33];"));
        wrong(main(most + ", @33, 34];"));
        wrong(main(most + ", @-33];"));
        wrong(main(most + ", @((33))];"));
        wrong(main(most + ", @33 + 34];"));
        wrong(main(most + ", @f()];"));
        wrong(main(most + ", @x];"));
        wrong(main(most + ", @true];"));
        // Each row alone.
        House.runs(main("let r = row row int [row int [" + list("#", ", ", 1, 32) + "], row int [" + list("#", ", ", 1, 32) + "]]; print len(r[1]);"), 0, "32");
        wrong(main("let r = row row int [row int [" + list("#", ", ", 1, 32) + ", @33]];"));
        wrong(main("let r = row row int [" + list("row int []", ", ", 1, 32) + ", @row int []];"));
    }

    private static void functions() {
        House.due("29", taken(each("fn f#() { } ", 1, 28) + main("")).count(1), 29);
        House.due("30", taken(main("") + each(" fn f#() { }", 1, 29)).count(1), 30);
        wrong(main("") + each(" fn f#() { }", 1, 29) + " @fn g() { }");
        wrong(main("") + each(" fn f#() { }", 1, 29) + " record R { } @fn g() { } fn h() { }");
        wrong(each("fn f#() { } ", 1, 30) + "@" + main(""));
        // One that is too many can be called, and be main.
        wrong(main("g();") + each(" fn f#() { }", 1, 29) + " @fn g() { }");
        House.runs(main("f29();") + each(" fn f#() { }", 1, 28) + " fn f29() { print 29; }", 0, "29");
    }

    private static void params() {
        for (int count = 0; count <= 8; count++) {
            String text = "fn f(" + list("a#: int", ", ", 1, count) + ") { print " + (count == 0 ? "0" : "a" + count) + "; } " + main("f("
                + list("#", ", ", 1, count) + ");");
            House.due("variables", House.runs(text, 0, "" + count).it.function(0, 0), count);
        }
        String most = "fn f(" + list("a#: int", ", ", 1, 8);
        wrong(most + ", @a9: int) { } " + main(""));
        wrong(most + ", @a9: int, a10: int) { } " + main(""));
        wrong(most + ", @a9: X) { } " + main(""));
        wrong(most + ", @a1: int) { } " + main(""));
        // Eight that are lent, and behind of.
        String lent = "fn f(" + list("a#: & int", ", ", 1, 8) + ") -> & int of " + list("a#", ", ", 1, 8) + " { return a8; } ";
        House.runs(lent + main("let a = 1; let b = f(" + list("& a", ", ", 1, 8) + "); print b^;"), 0, "1");
        House.faultAt(4, lent + main("let a = 1; let b = 2; let c = f(" + list("& a", ", ", 1, 7) + ", $& b); @b = 3; print c^;"));
        House.faultAt(4, lent + main("let a = 1; let b = 2; let c = f($& b, " + list("& a", ", ", 1, 7) + "); @b = 3; print c^;"));
        House.faultAt(4, "fn f(" + list("a#: & int", ", ", 1, 7) + ", $a8: & int) -> & int of " + list("a#", ", ", 1, 7) + " { @return a8; } " + main(""));
    }

    private static void variables() {
        House.due("39", taken(main(each("let a#: int; ", 1, 39))).function(0, 0), 39);
        House.due("40", taken(main(each("let a#: int; ", 1, 40))).function(0, 0), 40);
        wrong(main(each("let a#: int; ", 1, 40) + "let @a: int;"));
        wrong(main(each("let a#: int; ", 1, 40) + "let @a = 1; let b = 2;"));
        // All of one name count, those in blocks too, and those that no way comes to.
        House.due("40", taken(main(each("let a = #; ", 1, 20) + "return; if true { " + each("let a = #; ", 1, 20) + "}")).function(0, 0), 40);
        wrong(main(each("let a = #; ", 1, 20) + "return; if true { " + each("let a = #; ", 1, 20) + "let @a: int; }"));
        // Params, lets and binds that are names, together.
        String some = "choice C { A(int, int, int) } fn f(" + list("p#: int", ", ", 1, 8) + ") { " + each("let a#: int; ", 1, 29);
        String arm = "match new C.A(1, 2, 3) { A(_, b, c) => { } } ";
        String full = "match new C.A(1, 2, 3) { A(d, b, c) => { } } ";
        House.due("39", taken(some + arm + "} " + main("")).function(0, 0), 39);
        House.due("40", taken(some + arm + "let d: int; } " + main("")).function(0, 0), 40);
        House.due("40", taken(some + full + "} " + main("")).function(0, 0), 40);
        wrong(some + arm + "let d: int; let @e: int; } " + main(""));
        wrong(some + full + "let @e: int; } " + main(""));
        wrong(some + "let e: int; match new C.A(1, 2, 3) { A(d, b, @c) => { } } } " + main(""));
        // Each fn alone.
        LoanHouse x = taken("fn f() { " + each("let a#: int; ", 1, 40) + "} " + main(each("let a#: int; ", 1, 40)));
        House.due("40", x.function(0, 0), 40);
        House.due("40", x.function(1, 0), 40);
    }

    private static void leaves() {
        House.due("59", taken(PAIR + main(each("let a#: P; ", 1, 29) + "let b: int;")).function(0, 1), 59);
        House.due("60", taken(PAIR + main(each("let a#: P; ", 1, 30))).function(0, 1), 60);
        House.due("60", taken(PAIR + main(each("let a#: P; ", 1, 29) + "let b: int; let c: bool;")).function(0, 1), 60);
        wrong(PAIR + main(each("let a#: P; ", 1, 30) + "let @b: int;"));
        wrong(PAIR + main(each("let a#: P; ", 1, 30) + "let @b: P; let c: P;"));
        wrong(PAIR + main(each("let a#: P; ", 1, 29) + "let b: int; let @c: P;"));
        wrong(PAIR + main(each("let a#: P; ", 1, 29) + "let b: int; let @c = new P { a: 1, b: 2 }; let d: int;"));
        // Params and binds bring them too.
        String some = "choice C { A(P, P) } fn f(p: P, q: P) { " + each("let a#: P; ", 1, 27);
        House.due("60", taken(PAIR + some + "match new C.A(p, q) { A(_, b) => { } } } " + main("")).function(0, 1), 60);
        wrong(PAIR + some + "match new C.A(p, q) { A(b, @c) => { } } } " + main(""));
        wrong(PAIR + some + "let b: P; match new C.A(p, q) { A(_, @b) => { } } } " + main(""));
        House.due("58", taken(PAIR + some + "match new C.A(p, q) { A(_, _) => { } } } " + main("")).function(0, 1), 58);
        // What has no type brings none.
        wrong(PAIR + main(each("let a#: P; ", 1, 30) + "let b: @X;"));
        wrong(PAIR + main(each("let a#: P; ", 1, 30) + "let b = @x;"));
        wrong(PAIR + main(each("let a#: P; ", 1, 30) + "let b = 1 @+ true;"));
        wrong(PAIR + main(each("let a#: P; ", 1, 30) + "let b = box(@x);"));
    }

    /** LEAVES of a record with fields that is not told are those of its fields; of others it is one. */
    private static void leavesOf() {
        String some = PAIR + "record E { } record T told { a: int, b: int } record Q { p: P, t: T, e: E, b: box P, r: row P } choice C { A(P, P), B } ";
        LoanHouse x = taken(some + "fn e(a: E) { } fn t(a: T) { } fn q(a: Q) { } fn c(a: C) { } fn b(a: box P) { } fn r(a: row Q) { } fn s(a: & P) { } "
            + "fn o(a: &! Q) { } fn p(a: P) { } " + main(""));
        int[] leaves = {1, 1, 6, 1, 1, 1, 1, 1, 2, 0};
        for (int f = 0; f < leaves.length; f++) {
            House.due("LEAVES of fn " + f, x.function(f, 1), leaves[f]);
        }
        taken("record T told { a: int, b: int } " + main(each("let a#: T; ", 1, 40)));
        // A record that has itself, or such a one, within is one LEAF: these 60 are none too many.
        String odd = " record @R { a: int, b: int, r: S } record S { c: int, d: int, r: R } record U { a: int, b: int, s: S }";
        for (String name : new String[] {"R", "S", "U"}) {
            wrong(PAIR + main(each("let a#: P; ", 1, 25) + each("let c#: " + name + "; ", 1, 10)) + odd);
            wrong(PAIR + main(each("let a#: P; ", 1, 25) + each("let c#: " + name + "; ", 1, 10) + "let @d: " + name + ";") + odd.replace("@", ""));
        }
    }

    /** The value of a & goes to g, that of a &! to h: nothing holds the LOANS for long. */
    private static final String LENDING = "fn g(a: & int) { } fn h(a: &! int) { } ";

    private static void loans() {
        House.due("49", taken(LENDING + main("let a = 1; " + each("g(& a); ", 1, 49))).count(3), 49);
        House.due("50", taken(LENDING + main("let a = 1; " + each("g(& a); ", 1, 50))).count(3), 50);
        House.due("50", taken(LENDING + main("let a = 1; " + each("h(&! a); ", 1, 50))).function(2, 3), 50);
        wrong(LENDING + main("let a = 1; " + each("g(& a); ", 1, 50) + "g(@& a);"));
        wrong(LENDING + main("let a = 1; " + each("g(& a); ", 1, 50) + "h(@&! a);"));
        wrong(LENDING + main("let a = 1; " + each("g(& a); ", 1, 50) + "h(@&! a); g(& a); g(& a);"));
        wrong(LENDING + main("let a = 1; " + each("h(&! a); ", 1, 50) + "return; g(@& a);"));
        wrong(LENDING + main("let a = 1; return; " + each("h(&! a); ", 1, 50) + "if true { } else { g(@& a); }"));
        // Each fn alone; of all there are more.
        LoanHouse x = taken(LENDING + "fn f() { let a = 1; " + each("g(& a); ", 1, 50) + "} " + main("let a = 1; " + each("g(& a); ", 1, 50)));
        House.due("50", x.function(2, 3), 50);
        House.due("50", x.function(3, 3), 50);
        House.due("100", x.count(3), 100);
        House.due("the last one's sign", x.loan(99, 2), 99);
        House.due("the last one is in force", x.loan(99, 3), 0);
        House.due("none behind the last", x.loan(100, 0), -1);
    }

    /** Places through the ^ of a & make no LOAN, those through a &!, a box, a row or a field do. */
    private static void loansOf() {
        String none = "let a = 1; let b = & a; " + each("g(& b^); ", 1, 60);
        House.due("1", taken(LENDING + main(none)).count(3), 1);
        String params = "record R { a: int, b: box int, c: row int } fn f(p: & R, q: &! R, r: R) { ";
        House.due("none", taken(LENDING + params + each("g(& p^.a); g(& p^.b^); g(& p^.c[0]); ", 1, 20) + "} " + main("")).function(2, 3), 0);
        String full = LENDING + params + each("g(& q^.a); h(&! q^.b^); g(& r.c[0]); h(&! r.a); g(& r.b^); ", 1, 10);
        House.due("50", taken(full + "g(& p^.a); } " + main("")).function(2, 3), 50);
        wrong(full + "g(& p^.a); g(@& q^.a); } " + main(""));
        wrong(full + "h(@&! q^.c[0]); } " + main(""));
        wrong(full + "h(@&! r.a); } " + main(""));
        // At the 51st the place itself can be at fault only behind it.
        wrong(full + "h(@&! x); } " + main(""));
        wrong(full + "h(&! @p^.a); } " + main(""));
    }

    private static void places() {
        String some = "fn f(a: int) { print a" + each(" + a", 1, 198) + "; } ";
        House.due("399", taken(some + main("let a = 1; print a" + each(" + a", 1, 199) + ";")).count(2), 399);
        LoanHouse x = taken(some + main("let a = 1; print a" + each(" + a", 1, 200) + ";"));
        House.due("400", x.count(2), 400);
        House.due("fn of 198", x.place(198, 2), 0);
        House.due("fn of 199", x.place(199, 2), 1);
        House.due("fn of 399", x.place(399, 2), 1);
        House.due("way to 399", x.place(399, 4), 1);
        House.due("none behind the last", x.place(400, 0), -1);
        String full = some + "fn main() { let a = 1; let r = row int [1]; let b: bool; print a" + each(" + a", 1, 200) + "; ";
        wrong(full + "print @a; }");
        wrong(full + "@a = 1; }");
        wrong(full + "push(@r, 1); }");
        wrong(full + "print len(@r); }");
        wrong(full + "let c = & @a; }");
        wrong(full + "let c: bool = @r[a]; }");
        wrong(full + "let c: int = 1 + @b; print x; }");
        wrong(full + "return; print @x; }");
        wrong(full + "} fn g(a: int) -> bool { return @a; }");
        // The place within the [ ] is the one too many, as the place around it stands ahead of it.
        String last = some + "fn main() { let a = 1; let r = row int [1]; print a" + each(" + a", 1, 199) + "; ";
        House.due("400", taken(last + "print a; }").count(2), 400);
        wrong(last + "print r[@a]; }");
        wrong(last + "r[@r[0]] = true; }");
    }

    private static void sizes() {
        for (int count = 1; count <= 8; count++) {
            House.due("record", taken("record R { " + list("f#: int", ", ", 1, count) + " } " + main("")).size(0), count);
        }
        wrong("record @R { " + list("f#: int", ", ", 1, 9) + " } " + main(""));
        String seven = "record S { " + list("f#: bool", ", ", 1, 7) + " } ";
        House.due("8", taken(seven + "record R { s: S, t: E } record E { } " + main("")).size(1), 8);
        wrong(seven + "record @R { s: S, t: E, u: E } record E { } " + main(""));
        House.due("8", taken(seven + "choice C { A(S), B, D(int, int) } " + main("")).size(1), 8);
        wrong(seven + "choice @C { A(S, int) } " + main(""));
        wrong(seven + "choice @C { A, B(int, S), D } " + main(""));
        wrong(seven + "choice C { A(S) } record @R { c: C, a: int } " + main(""));
        wrong(seven + "choice C { A(S) } choice @D { A(C) } " + main(""));
        LoanHouse x = taken("record E { } choice A { V, W } record B { a: box E, b: row B, c: bool, d: int } choice C { V(E, E), W(A), X(int) } "
            + "record D { a: A, b: B, c: C } " + main(""));
        int[] sizes = {1, 1, 4, 3, 8};
        for (int i = 0; i < sizes.length; i++) {
            House.due("size " + i, x.size(i), sizes[i]);
        }
    }

    /** .. also of one that has itself, or such a one, within but for box and row. */
    private static void withinItself() {
        wrong("record @A { a: A } " + main(""));
        wrong("choice @A { B(A) } " + main(""));
        wrong("choice @A { B, C(int, A) } " + main(""));
        wrong("record @A { b: B } record B { c: C } choice C { D(A), E } " + main(""));
        wrong("record @A { b: B } record B { b: B } " + main(""));
        wrong("record B { a: int } choice @C { D(B), E(F) } record F { c: C } " + main(""));
        wrong("record X { a: int, b: Y } record Y { } record @Z { z: Z } " + main(""));
        wrong("record O { a: box I } record @I { b: I } " + main(""));
        taken("record A { a: box A, b: row A } choice C { V, W(box C, row C), X(box D) } record D { c: C, d: row D } " + main(""));
        taken("record A { a: box B } record B { a: A, b: row B } " + main(""));
    }

    private static void parts() {
        StringBuilder chain = new StringBuilder("record R1 { a: int } ");
        for (int i = 2; i <= 15; i++) {
            chain.append("record R").append(i).append(" { a: R").append(i - 1).append(" } ");
        }
        // R15 has 16, R14 has 15.
        taken(chain + main(""));
        wrong(chain + "record @S { a: R15 } " + main(""));
        wrong(chain + "record @S { a: R15 } record T { a: S } " + main(""));
        taken(chain + "record S { a: box R15, b: row R15 } " + main(""));
        taken(chain + "record S { a: R14 } " + main(""));
        wrong(chain + "record @S { a: R14, b: int } " + main(""));
        taken(chain + "record S { a: R13, b: int } " + main(""));
        taken(chain + "choice C { V, W(R14), X(R13, int) } " + main(""));
        wrong(chain + "choice @C { V, W(R15) } " + main(""));
        wrong(chain + "choice @C { V, W(R13, int, bool) } " + main(""));
        // A record without fields has one.
        taken(chain + "record E { } choice C { V(R13, E) } " + main(""));
        wrong(chain + "record E { } choice @C { V(R14, E) } " + main(""));
        wrong("record E { } record F { e: E } record @G { " + list("f#: F", ", ", 1, 8) + " } " + main(""));
        // 1 + 7 * 2 + 1: sixteen.
        taken("record E { } record F { e: E } record G { " + list("f#: F", ", ", 1, 7) + ", e: E } " + main(""));
        // What has no type has none.
        wrong(chain + "record S { a: R14, b: @X } " + main(""));
        wrong(chain + "choice S { A(R14, @& int) } " + main(""));
    }

    /** NAMES: unlike, at the second one. */
    private static void unlike() {
        wrong("record A { } record B { } choice @A { X } record A { } " + main(""));
        wrong("fn f() { } fn g() { } fn @f(a: int) { } fn f() { } " + main(""));
        wrong(main("") + " fn @main() { }");
        wrong("record A { a: int, b: int, @a: int, a: int } " + main(""));
        wrong("choice A { a, b, @b, a } " + main(""));
        wrong("fn f(a: int, b: int, @b: int, a: int) { } " + main(""));
        taken("record f { f: int } choice g { f, g } fn f(f: int, g: int) { let f = g; } fn g() { } " + main("let main = 1;"));
        taken("record A { a: int } record B { a: int } choice C { a } choice D { a } fn f(a: int) { } fn g(a: int) { } " + main(""));
        // A name that there is not.
        wrong("record A { a: @B } " + main(""));
        wrong("choice A { B(int, @B) } " + main(""));
        wrong("record A { a: box row @B } " + main(""));
        wrong("fn f(a: & @B) { } " + main(""));
        wrong("fn f() -> row @f { fail; } " + main(""));
        wrong("record A { a: int } fn f(a: & A) { print a^.@b; } " + main(""));
        wrong("record A { a: int } fn f(a: row A) { a[0].@b = 1; } " + main(""));
        wrong(main("let a = 1; print a + @b;"));
        wrong(main("let a = 1; @b = a;"));
        wrong(main("let a = & @b;"));
        wrong(main("push(@b, 1);"));
        wrong(main("print len(@b) + pop(c);"));
        wrong("record b { } fn b() { } " + main("print @b;"));
        wrong("record b { } " + main("@b();"));
        wrong("fn A() { } " + main("let a: @A;"));
    }

    private static void scopes() {
        wrong(main("let a = @a;"));
        wrong(main("let a = 1; if true { let b = a; } print @b;"));
        wrong(main("print @a; let a = 1;"));
        wrong(main("if true { let a = 1; } else { print @a; }"));
        wrong(main("while @a { let a = true; }"));
        wrong("fn f(p: int) { } " + main("print @p;"));
        wrong("fn f() { let a = 1; } " + main("print @a;"));
        wrong("choice C { A(int), B(int) } " + main("match new C.A(1) { A(a) => { } B(b) => { print @a; } }"));
        wrong("choice C { A(int) } " + main("match new C.A(1) { A(a) => { } } print @a;"));
        wrong("choice C { A(int) } " + main("match new C.A(@a) { A(a) => { } }"));
        House.runs("fn f(p: int) { if true { while true { print p; break; } } print p; } " + main("f(1);"), 0, "1 1");
        House.runs(main("let a = 1; let a = a + 1; if true { let a = a + 1; let a = a + 1; print a; } print a;"), 0, "4 2");
        House.runs("choice C { A(int) } " + main("let a = 1; match new C.A(2) { A(a) => { print a; let a = 3; print a; } } print a;"), 0, "2 3 1");
        House.runs("fn f(p: int) { let p = p + 1; if true { let p = true; print p; } print p; } " + main("f(1);"), 0, "1 2");
        // What hides a variable is of another type; behind the block the first one is meant again.
        wrong(main("let a = 1; let a = true; print a @+ 1;"));
        House.taken(main("let a = 1; if true { let a = true; if a { } } print a + 1;"));
    }

    /** There is a fn main without params or result (else at the text's end). */
    private static void mains() {
        wrong("@");
        wrong("fn Main() { }@");
        wrong("record main { }@");
        wrong("fn f() { }   # no main@");
        wrong("fn main(a: int) { }@");
        wrong("fn main() -> int { return 1; }@");
        wrong("fn main() -> bool { fail; } fn f() { }\n@");
        // Two of the name: at the second one, as that stands ahead of the end.
        wrong("fn main(a: int) { } fn @main() { }");
        // What else is broken stands ahead of the end.
        wrong("fn f() { print @a; }");
        House.fault("fn f() { } fn g() { }", 2, 21, -1);
        taken("fn f() { } fn main() { } fn g() { }");
    }
}
