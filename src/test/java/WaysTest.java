/** FAULT 3: what is held on all ways (Terms III); promises 10 (acts, ways) and 13 (LEAVES held on some ways). */
public final class WaysTest {
    private static final String SOME = "record T told { n: int } record R { a: T, b: T } record Q { r: R, c: int } "
        + "fn e(t: T) { } fn g(r: R) { } fn t() -> T { return new T { n: 1 }; } "
        + "fn u(t: T) -> bool { return true; } ";

    public static void main(String[] args) {
        straight();
        leaves();
        branches();
        loops();
        further();
        others();
        acts();
        splits();
        House.end("WaysTest");
    }

    private static String main(String body) {
        return SOME + "fn main() { " + body + " }";
    }

    private static void wrong(String body) {
        House.faultAt(3, main(body));
    }

    private static void taken(String body) {
        House.taken(main(body));
    }

    private static void straight() {
        wrong("let $a: int; print @a;");
        taken("let a: int; a = 1; print a;");
        wrong("let a = t(); e($a); e(@a);");
        taken("let a = t(); e(a); a = t(); e(a);");
        wrong("let a = t(); let b = $a; let c = & @a;");
        wrong("let a = t(); let b = $a; let c = &! @a;");
        wrong("let a = row int []; let b = $a; print len(@a);");
        wrong("let a = row int []; let b = $a; push(@a, 1);");
        wrong("let a = row int []; let b = $a; pop(@a);");
        wrong("let a = t(); let b = $a; swap(@a, t());");
        wrong("let a = 1; let r = &! a; let s = $r; print @r^;");
        taken("let a = 1; let r = & a; let s = r; print r^ + s^;");
        // The exp of an assignment comes first.
        taken("let a = t(); a = a;");
        wrong("let $a: int; a = @a;");
        // The value of a push or swap comes ahead of its place.
        House.faultAt(3, "fn h(r: row int) -> int { return 1; } fn main() { let a = row int []; push(@a, h($a)); }");
        House.faultAt(3, "fn h(a: int) -> int { return 1; } fn main() { let $a: int; swap(@a, h(a)); }");
    }

    private static void leaves() {
        taken("let a: R; a.a = t(); a.b = t(); g(a);");
        wrong("let $a: R; a.a = t(); g(@a);");
        wrong("let a = new R { a: t(), b: t() }; e($a.b); g(@a);");
        taken("let a = new R { a: t(), b: t() }; e(a.b); e(a.a);");
        taken("let a = new R { a: t(), b: t() }; g(a); a = new R { a: t(), b: t() }; g(a);");
        wrong("let a = new R { a: t(), b: t() }; g($a); a.b = t(); g(@a);");
        wrong("let a = new Q { r: new R { a: t(), b: t() }, c: 1 }; e($a.r.a); let b = @a.r;");
        taken("let a = new Q { r: new R { a: t(), b: t() }, c: 1 }; e(a.r.a); e(a.r.b); print a.c;");
        // The first LEAF that is not held tells the other place.
        wrong("let a = new R { a: t(), b: t() }; e(a.b); e($a.a); g(@a);");
        wrong("let a: R; a.a = t(); e($a.a); a.b = t(); e(a.b); print @a.a.n;");
    }

    private static void branches() {
        wrong("let a = t(); if read == 1 { e($a); } e(@a);");
        wrong("let a = t(); if read == 1 { e($a); } else { e(a); } e(@a);");
        taken("let a = t(); if read == 1 { e(a); a = t(); } e(a);");
        taken("let a = t(); if read == 1 { e(a); return; } e(a);");
        taken("let a = t(); if read == 1 { e(a); fail; } e(a);");
        wrong("let a: bool; let $b: bool; a = true; if a or @b { }");
        wrong("let a = t(); if read == 1 and u($a) { } e(@a);");
        wrong("let a = t(); if u($a) and read == 1 { } e(@a);");
        wrong("let $a: int; if read == 1 { a = 1; } print @a;");
        taken("let a: int; if read == 1 { a = 1; } else { a = 2; } print a;");
        // An if is judged by its arms alone, whatever its test.
        wrong("let a = t(); if false { e($a); } e(@a);");
    }

    private static void loops() {
        wrong("let a = t(); while read == 1 { e(@$a); }");
        wrong("let a = t(); while read == 1 { a = t(); e($a); } e(@a);");
        taken("let a = t(); while read == 1 { e(a); a = t(); } e(a);");
        wrong("let a = t(); while read == 1 { e($a); break; } e(@a);");
        taken("let a = t(); while read == 1 { e(a); a = t(); continue; } e(a);");
        wrong("let a = t(); while true { e(@$a); if read == 1 { continue; } break; } ");
        taken("while read == 1 { let a = t(); e(a); }");
        wrong("while read == 1 { let $a: T; e(@a); a = t(); e(a); }");
        // A while can always be left.
        wrong("let $a: int; while true { a = 1; } print @a;");
    }

    private static void further() {
        wrong("let $a: T; @a.n = 1;");
        wrong("let $a: box int; @a^ = 1;");
        wrong("let $a: row int; @a[0] = 1;");
        wrong("let $a: &! int; @a^ = 1;");
        wrong("let a = box(t()); let b = $a; @a^ = t();");
        taken("let a: box int; a = box(1); a^ = 2;");
        // What gives a part of a LEAF does not give the LEAF.
        wrong("let a = t(); e($a); print 1; @a.n = 2;");
        wrong("let $a: row int; print @a[a[0]];");
        wrong("let a = row row int []; let b = row int []; let c = $b; print a[0][@b[0]];");
    }

    private static void others() {
        // The least place in the text, not the first one met.
        wrong("let a = t(); e($a); if read == 1 { e(@a); } else { e(a); }");
        House.faultAt(3, "fn f() { let $a: int; print @a; } fn main() { let b: int; print b; }");
        // What no way comes to breaks nothing, and moves nothing.
        taken("let a = t(); e(a); return; e(a);");
        taken("while true { let a = t(); e(a); break; e(a); }");
        wrong("let a = t(); while read == 1 { if read == 2 { break; e(a); } } e($a); e(@a);");
        // The params are held at first.
        House.taken(SOME + "fn f(r: R, t: & T) { g(r); print t^.n; } fn main() { }");
        House.faultAt(3, SOME + "fn f(r: R) { g($r); g(@r); } fn main() { }");
        // A bind is given.
        House.faultAt(3, SOME + "choice C { A(T), B } fn f(c: C) { match $c { A(t) => { e(t); c = new C.B; } B => { } } match @c "
            + "{ _ => { } } } fn main() { }");
        // FAULT 2 comes first, wherever it stands.
        House.faultAt(2, main("let a: int; print a; print @b;"));
        // FAULT 3 goes ahead of FAULT 4.
        wrong("let a = 1; let r = & a; a = 2; print r^; let $b: int; print @b;");
    }

    private static void acts() {
        House house = House.taken(SOME + "fn main() { let a = 1; let r = row T []; let b = & a; let c = &! r; print a + len(c^); "
            + "push(r, t()); pop(r); let d = r; a = 2; swap(a, 3); return; print a; }");
        int[] acts = {2, 3, 0, 0, 5, 5, 1, 4, 5, 0};
        House.due("places", house.it.count(2), acts.length);
        for (int i = 0; i < acts.length; i++) {
            House.due("act of place " + i, house.it.place(i, 1), acts[i]);
            House.due("fn of place " + i, house.it.place(i, 2), 4);
            House.due("way to place " + i, house.it.place(i, 4), i == 9 ? 0 : 1);
        }
        String text = "fn main() { let a = row int [1]; a[a[0]] = a[0]; }";
        House nested = House.taken(text);
        House.due("place 0", nested.it.place(0, 0), text.indexOf("a[a"));
        House.due("place 1", nested.it.place(1, 0), text.indexOf("a[0]"));
        House.due("place 2", nested.it.place(2, 0), text.indexOf("a[0];"));
        House.due("act of place 0", nested.it.place(0, 1), 4);
        House.due("act of place 1", nested.it.place(1, 1), 0);
        House.due("no place", nested.it.place(3, 0), -1);
        House.due("no place", nested.it.place(-1, 0), -1);
        House.due("nothing of a place", nested.it.place(0, 5), -1);
        House.due("nothing of a place", nested.it.place(0, -1), -1);
    }

    private static void splits() {
        House.due("splits", House.taken(main("let a = t(); if read == 1 { e(a); }")).it.function(4, 2), 1);
        House.due("splits", House.taken(main("let a = t(); if read == 1 { e(a); a = t(); }")).it.function(4, 2), 0);
        House.due("splits", House.taken(main("let a = t(); if read == 1 { e(a); } else { e(a); }")).it.function(4, 2), 0);
        House.due("splits", House.taken(main("let a = t(); if read == 1 { e(a); return; }")).it.function(4, 2), 0);
        House.due("splits", House.taken(main("let a = t(); if read == 1 { e(a); fail; }")).it.function(4, 2), 0);
        House.due("splits", House.taken(main("let a: R; if read == 1 { a.a = t(); } if read == 2 { a.b = t(); }")).it.function(4, 2), 2);
        House.due("splits", House.taken(main("while read == 1 { let a = t(); if read == 1 { e(a); } if read == 2 { break; } }")).it.function(4, 2), 1);
        House.due("splits", House.taken(main("let a = t(); let b: int; while read == 1 { if read == 2 { b = 3; } a = t(); }")).it.function(4, 2), 1);
        // Held on the one END, not held on the other: split at none.
        House.due("splits", House.taken(main("while read == 1 { let a = t(); if read == 1 { e(a); continue; } }")).it.function(4, 2), 0);
        House.due("splits", House.taken(SOME + "fn f(r: R) { if read == 1 { e(r.b); } } fn main() { }").it.function(4, 2), 1);
    }
}
