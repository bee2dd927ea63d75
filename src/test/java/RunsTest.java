/** Runs (Terms V); promises 6, 7, 8 and 15 to 18. Each run is also asked for strays, twices, lefts and clashes. */
public final class RunsTest {
    private static final String SOME = "record T told { n: int } fn t(n: int) -> T { return new T { n: n }; } ";

    public static void main(String[] args) {
        numbers();
        order();
        steps();
        cuts();
        given();
        dropped();
        overwritten();
        matched();
        failures();
        unwound();
        most();
        calls();
        outs();
        again();
        House.end("RunsTest");
    }

    private static String main(String body) {
        return SOME + "fn main() { " + body + " }";
    }

    private static House ran(String body, String out) {
        return House.runs(main(body), 0, out);
    }

    /** Fails for a reason at the place that @ marks. */
    private static House failed(String marked, int why, String out) {
        String text = main(marked);
        House house = House.runs(text.replace("@", ""), 1, out);
        House.due("place of " + text, house.it.about(1), text.indexOf('@'));
        House.due("reason of " + text, house.it.about(2), why);
        return house;
    }

    private static void numbers() {
        ran("print 7 / 2; print -7 / 2; print 7 % -2; print -7 % 2; print 2 + 3 * 4 - 1;", "3 -3 1 -1 13");
        ran("print 9223372036854775807 + 1; print -9223372036854775807 - 2; print 9223372036854775807 * 2;",
            "-9223372036854775808 9223372036854775807 -2");
        ran("let m = -9223372036854775807 - 1; print m / -1; print m % -1; print -m;",
            "-9223372036854775808 0 -9223372036854775808");
        ran("print 1 < 2; print 2 <= 1; print 2 > 1; print 2 >= 2; print 1 == 2; print true != false; print true == true;",
            "1 0 1 1 0 1 1");
        ran("print not true; print not false == true; print true and false or true; print false and true or false;", "0 1 1 0");
        ran("print 100 - 10 - 1; print 100 / 10 / 2; print (100 - (10 - 1)) * 2; print - - 5; print -(5);", "89 5 182 5 -5");
        ran("print 4294967296 + 4294967295; print 9223372036854775807;", "8589934591 9223372036854775807");
    }

    private static void order() {
        String tell = "fn b(n: int, b: bool) -> bool { print n; return b; } fn i(n: int) -> int { print n; return n; } ";
        House.runs(tell + main("print b(1, true) and b(2, false) and b(3, true); print b(4, false) or b(5, true) or b(6, true);"), 0,
            "1 2 0 4 5 1");
        House.runs(tell + main("print i(1) + i(2) * i(3);"), 0, "1 2 3 7");
        House.runs(tell + main("let r = row int [i(1), i(0)]; r[i(0)] = i(5); push(r, i(6)); print r[i(2)]; print swap(r[i(1)], i(8)); print r[1];"), 0,
            "1 0 5 0 6 2 6 8 1 0 8");
        House.runs(tell + "record R { a: int, b: int } " + main("let r = new R { b: i(2), a: i(1) }; print r.a * 10 + r.b;"), 0, "2 1 12");
        House.runs(tell + main("let r = row row int [row int [1, 2], row int [3]]; print r[i(0)][i(1)]; print len(r[1]) + len(r);"), 0, "0 1 2 3");
    }

    private static void steps() {
        House.due("steps", ran("", "").it.about(3), 0);
        House.due("steps", ran("let a = 1; print a; if a == 1 { print 2; }", "1 2").it.about(3), 4);
        House.due("steps", ran("if false { } else if false { } else if true { print 1; }", "1").it.about(3), 2);
        House.due("steps", ran("if false { } else { if true { print 1; } }", "1").it.about(3), 3);
        // The while, then four turns' tests and three turns.
        House.due("steps", ran("let a = 0; while a < 3 { a = a + 1; }", "").it.about(3), 9);
        House.due("steps", ran("let a = 0; while true { a = a + 1; if a < 3 { continue; } break; }", "").it.about(3), 14);
        House.due("steps", ran("t(1); return; print 1;", "!1").it.about(3), 3);
    }

    private static void cuts() {
        House house = House.taken(main("let a = 0; let b = t(4); while a < 3 { a = a + 1; print a; }"));
        // The first print is the seventh STEP, and each turn has three.
        for (int most = 1; most <= 14; most++) {
            boolean through = most == 14;
            House.due("run of " + most, house.it.run(most), through ? 0 : 2);
            House.due("steps of " + most, house.it.about(3), most);
            House.due("how " + most + " ended", house.it.about(0), through ? 0 : 2);
            House.due("place of " + most, house.it.about(1), -1);
            House.due("reason of " + most, house.it.about(2), -1);
            House.due("made of " + most, house.it.about(5), most < 3 ? 0 : 1);
            House.due("dropped of " + most, house.it.about(6), through ? 1 : 0);
            House.due("lefts of " + most, house.it.lefts(), 0);
            if (!through) {
                House.due("out of " + most, house.it.about(4), Math.max(0, (most - 4) / 3));
            }
        }
        House.due("through", house.it.run(15), 0);
        House.due("endless", House.runs("fn main() { while true { } }", 2, "").it.about(3), 50000);
        House.due("no steps", house.it.run(0), -1);
        House.due("too many steps", house.it.run(50001), -1);
        House.due("steps below 0", house.it.run(-1), -1);
        House.due("nothing was done", house.it.about(3), 14);
    }

    private static void given() {
        House house = House.taken(main("print read; print read + read; if read == 0 { print read; }"));
        house.runsAgain("nothing given", 0, "0 0 0");
        House.due("reads", house.it.about(9), 5);
        House.due("give", house.it.give(5), 1);
        House.due("give", house.it.give(-9223372036854775807L - 1), 2);
        House.due("give", house.it.give(1), 3);
        house.runsAgain("three given", 0, "5 -9223372036854775807 0");
        house.runsAgain("the same again", 0, "5 -9223372036854775807 0");
        House.due("give", house.it.give(7), 4);
        house.runsAgain("four given", 0, "5 -9223372036854775807");
        House.due("reads", house.it.about(9), 4);
        for (int i = 5; i <= 200; i++) {
            House.due("give", house.it.give(i), i);
        }
        House.due("give too many", house.it.give(1), -1);
    }

    private static void dropped() {
        ran("let a = t(1); let b = t(2); print 0;", "0 !2 !1");
        ran("t(1); print 0; t(2);", "!1 0 !2");
        House.runs("record T told { n: int, a: A, b: int } record A told { n: int } fn main() { let t = new T { n: 1, a: new A { n: 2 }, b: 3 }; }",
            0, "!1 !2");
        House.runs(SOME + "record R { a: T, b: int, c: T } fn f(r: R, s: T) { print 0; } fn main() { "
            + "let r = new R { a: t(1), b: 2, c: t(3) }; f(r, t(4)); print 9; }", 0, "0 !4 !1 !3 9");
        ran("let a = row T [t(1), t(2), t(3)]; print 0;", "0 !1 !2 !3");
        ran("let a = box(row T [t(1), t(2)]); let b = open(a); print 0;", "0 !1 !2");
        House.runs(SOME + "choice C { E, A(T, int, T), B(box C) } fn main() { let c = new C.B(box(new C.A(t(1), 2, t(3)))); let d = new C.E; print 0; }",
            0, "0 !1 !3");
        ran("let a = row T [t(1), t(2)]; pop(a); print 0; push(a, t(3));", "!2 0 !1 !3");
        ran("let a = t(1); if true { let b = t(2); let c = t(3); print 0; } print 4;", "0 !3 !2 4 !1");
        ran("let i = 0; while i < 2 { let a = t(i); i = i + 1; if i == 1 { continue; } let b = t(5); break; } print 9;", "!0 !5 !1 9");
        House.runs(SOME + "fn f(a: T, b: T) -> int { let c = t(3); if true { let d = t(4); return c.n; } return 0; } fn main() { print f(t(1), t(2)); }",
            0, "!4 !3 !2 !1 3");
        // Only what has a value is dropped.
        ran("let a = t(1); let b: T; if read == 0 { b = a; } print 0;", "0 !1");
        House.runs(SOME + "record R { a: T, b: T } fn e(t: T) { } fn main() { let r = new R { a: t(1), b: t(2) }; e(r.a); print 0; let s: R; s.b = t(3); }",
            0, "!1 0 !3 !2");
        House.due("told made", ran("t(1); let a = t(2);", "!1 !2").it.about(5), 2);
        House.due("told dropped", ran("t(1); let a = t(2);", "!1 !2").it.about(6), 2);
    }

    private static void overwritten() {
        ran("let a = t(1); a = t(2); print 0;", "!1 0 !2");
        ran("let a: T; a = t(1); print 0;", "0 !1");
        ran("let a = t(1); a = a; print 0;", "0 !1");
        ran("let a = t(1); a.n = 5; print 0;", "0 !5");
        ran("let a = box(t(1)); a^ = t(2); print 0; a = box(t(3));", "!1 0 !2 !3");
        ran("let a = row T [t(1), t(2)]; a[0] = t(3); swap(a[1], t(4)); print 0;",
            "!1 !2 0 !3 !4");
        ran("let a = t(1); let b = &! a; b^ = t(2); print 0;", "!1 0 !2");
        House.runs(SOME + "record R { a: T, b: T } fn e(t: T) { } fn main() { let r = new R { b: t(2), a: t(1) }; e(r.b); r = new R { a: t(3), b: t(4) }; print 0; }",
            0, "!2 !1 0 !3 !4");
        House.runs(SOME + "record R { a: T, b: T } fn main() { let r = box(new R { b: t(2), a: t(1) }); r^ = new R { a: t(3), b: t(4) }; r^.b = t(5); print 0; }",
            0, "!1 !2 !4 0 !3 !5");
        ran("let a = t(1); let b = swap(a, t(2)); print 0;", "0 !1 !2");
    }

    private static void matched() {
        String some = SOME + "choice C { E, A(T, int, T, T), B(box C) } ";
        House.runs(some + "fn main() { match new C.A(t(1), 2, t(3), t(4)) { A(_, a, b, _) => { print a; print b.n; } _ => { } } print 0; }", 0,
            "!1 !4 2 3 !3 0");
        House.runs(some + "fn main() { match new C.A(t(1), 2, t(3), t(4)) { E => { } _ => { print 9; } } print 0; }", 0, "!1 !3 !4 9 0");
        House.runs(some + "fn main() { match new C.A(t(1), 2, t(3), t(4)) { A(a, b, c, d) => { let e = t(5); print 9; } _ => { } } print 0; }", 0,
            "9 !5 !4 !3 !1 0");
        House.runs(some + "fn main() { let c = new C.A(t(1), 2, t(3), t(4)); match & c { A(_, a, b, _) => { print a^; print b^.n; } _ => { } } "
            + "match &! c { A(_, a, b, _) => { a^ = 7; b^ = t(8); } _ => { } } match &! c { _ => { c = new C.E; } } print 0; }", 0,
            "2 3 !3 !1 !8 !4 0");
        House.runs(some + "fn n(c: & C) -> int { match c { E => { return 0; } A(_, a, _, _) => { return a^; } B(b) => { return 1 + n(& b^^); } } } "
            + "fn main() { let c = new C.B(box(new C.B(box(new C.E)))); print n(& c); }", 0, "2");
    }

    private static void failures() {
        failed("print 1; @fail; print 2;", 1, "1");
        failed("print 1 @/ 0;", 2, "");
        failed("print 1 + 5 @% (1 - 1);", 2, "");
        failed("let a = row int [1, 2]; print a[1]; print a@[2];", 3, "2");
        failed("let a = row int [1, 2]; print a@[-1];", 3, "");
        failed("let a = row int []; a@[0] = 1;", 3, "");
        failed("let a = row row int [row int [1]]; print a[0]@[1];", 3, "");
        failed("let a = row row int [row int [1]]; print a@[1][1];", 3, "");
        failed("let a = row int [1]; print a@[4294967296];", 3, "");
        failed("let a = row int [1]; pop(a); print 0; @pop(a);", 4, "0");
        failed("let a = row int []; let b = 0; while true { push(a, b); b = b + 1; print len(a); if b == 32 { break; } } @push(a, 1);", 5,
            "1 2 3 4 5 6 7 8 9 10 11 12 13 14 15 16 17 18 19 20 21 22 23 24 25 26 27 28 29 30 31 32");
    }

    private static void unwound() {
        // Values that wait go first, the latest ahead; then the variables; then the caller's.
        failed("let a = t(1); let b = row T [t(2), t(3), t(1 @/ 0)];", 2, "!3 !2 !1");
        House house = House.runs(SOME + "fn f(a: T, b: T) -> T { let c = t(5); let r = row T [t(6), t(7), g(c)]; fail; } "
            + "fn g(d: T) -> T { let e = t(8); if true { let h = t(9); fail; } return e; } fn main() { let a = t(1); "
            + "let r = row T [t(2), f(t(3), t(4))]; }", 1, "!9 !8 !5 !7 !6 !4 !3 !2 !1");
        House.due("told made", house.it.about(5), 9);
        House.due("told dropped", house.it.about(6), 9);
        failed("let a = row T []; a@[0] = t(1);", 3, "!1");
        failed("let a = row row T []; push(a@[0], t(1));", 3, "!1");
        failed("let a = row T []; let b = t(2); swap(a@[0], b);", 3, "!2");
        House.runs(SOME + "record R { a: T, b: T, c: T } fn main() { let r = new R { c: t(3), a: t(1), b: t(1 / 0) }; }", 1, "!1 !3");
        House.runs(SOME + "choice C { A(T) } fn main() { match new C.A(t(1)) { A(a) => { let b = t(2); fail; } } }", 1, "!2 !1");
    }

    private static void most() {
        String boxes = "choice L { E, N(box L) } fn main() { let l = new L.E; let i = 0; while i < 200 { l = new L.N(box(l)); i = i + 1; } ";
        House house = House.runs(boxes + "print 1; }", 0, "1");
        House.due("most boxes", house.it.about(7), 200);
        String more = boxes + "print 1; l = new L.N(@box(l)); }";
        house = House.runs(more.replace("@", ""), 1, "1");
        House.due("why", house.it.about(2), 5);
        House.due("where", house.it.about(1), more.indexOf('@'));
        House.due("most boxes", house.it.about(7), 200);
        house = House.runs(boxes + "match l { N(b) => { l = open(b); } _ => { l = new L.E; } } l = new L.N(box(l)); print i; }", 0, "200");
        House.due("most boxes", house.it.about(7), 200);
        house = House.runs("fn main() { let i = 0; while i < 1000 { let b = box(row int [i]); let c = open(b); i = i + 1; } }", 0, "");
        House.due("most boxes", house.it.about(7), 1);
        House.due("most rows", house.it.about(8), 1);
        String rows = "fn main() { let r = row row int []; let s = row row int []; while len(r) < 32 { push(r, row int []); } "
            + "while len(s) < 26 { push(s, row int []); } print 1; ";
        house = House.runs(rows + "}", 0, "1");
        House.due("most rows", house.it.about(8), 60);
        house = House.runs(rows + "push(s, row int [1, 2]); }", 1, "1");
        House.due("why", house.it.about(2), 5);
        House.due("where", house.it.about(1), (rows + "push(s, ").length());
        House.due("most rows", house.it.about(8), 60);
        House.runs(rows + "pop(s); push(s, row int []); }", 0, "1");
        // A row that is put in place of one is made ahead of the drop.
        House.runs(rows + "r[0] = row int []; }", 1, "1");
    }

    private static void calls() {
        String text = "fn f(n: int) -> int { if n == 0 { return 0; } return 1 + f(n - 1); } fn main() { print f(read); }";
        House house = House.taken(text);
        house.it.give(38);
        house.runsAgain(text, 0, "38");
        house = House.taken(text);
        house.it.give(39);
        house.runsAgain(text, 1, "");
        House.due("why", house.it.about(2), 6);
        House.due("where", house.it.about(1), text.indexOf("f(n - 1)"));
        house = House.runs(SOME + "fn f(t: T) { let n = t.n; f(t(n + 1)); } fn main() { f(t(0)); }", 1, deep());
        House.due("why", house.it.about(2), 6);
        House.runs("fn main() { print 1; main(); }", 1, ones(40));
    }

    private static String deep() {
        // The last one's argument waits in vain: it goes first, then each call's own.
        StringBuilder all = new StringBuilder("!38");
        for (int n = 37; n >= 0; n--) {
            all.append(" !").append(n);
        }
        return all.toString();
    }

    private static String ones(int times) {
        return "1" + " 1".repeat(times - 1);
    }

    private static void outs() {
        House house = House.taken("record T told { n: int } fn main() { let i = 0; while i < 999 { print true; i = i + 1; } let t = new T { n: 5 }; let u = new T { n: 6 }; }");
        House.due("run", house.it.run(50000), 0);
        House.due("entries", house.it.about(4), 1000);
        House.due("dropped", house.it.about(6), 2);
        House.due("kind", house.it.out(998, 0), 0);
        House.due("number", house.it.out(998, 1), 1);
        House.due("kind", house.it.out(999, 0), 1);
        House.due("number", house.it.out(999, 1), 6);
        House.due("none", house.it.out(1000, 1), 0);
        House.due("none", house.it.out(999, 2), 0);
        House.due("none", house.it.out(999, -1), 0);
        House.due("none", house.it.out(-1, 1), 0);
        House.due("none of that", house.it.about(10), -1);
        House.due("none of that", house.it.about(-1), -1);
    }

    private static void again() {
        House house = House.taken("fn main() { let a = box(row int [1]); print read; fail; }");
        house.runsAgain("first", 1, "0");
        house.it.give(3);
        house.runsAgain("second", 1, "3");
        House.due("boxes", house.it.about(7), 1);
        House.due("reads", house.it.about(9), 1);
        // Many calls open, with wide values waiting: more cells than there are at first.
        House.runs("record W { a: int, b: int, c: int, d: int, e: int, f: int, g: int, h: int } "
            + "fn w(n: int) -> W { return new W { a: n, b: n, c: n, d: n, e: n, f: n, g: n, h: n }; } "
            + "fn f(n: int) -> W { if n == 0 { return w(7); } let r = row W [w(n), w(n), w(n), w(n), w(n), w(n), w(n), w(n), w(n), w(n), w(n), f(n - 1)]; "
            + "print r[10].h; return pop(r); } fn main() { let v = f(30); print v.a + v.h; }", 0, upTo(30) + " 14");
    }

    private static String upTo(int last) {
        StringBuilder all = new StringBuilder("1");
        for (int n = 2; n <= last; n++) {
            all.append(' ').append(n);
        }
        return all.toString();
    }
}
