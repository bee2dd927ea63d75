import java.math.BigInteger;

/** Terms V at their edges: STEPS, ints, OUT, boxes, rows, elements, open calls, what fails where, what is dropped when. */
public final class RunEdgesTest {
    private static final String SOME = "record T told { n: int } record P { a: T, b: T } record N told { n: int, a: T, r: row T, b: box T } "
        + "choice C { V, W(T, int, T), X(box C) } fn t(n: int) -> T { return new T { n: n }; } fn y() -> bool { return true; } "
        + "fn two(a: T, b: T) { print 0; } fn e(a: T) { } ";

    public static void main(String[] args) {
        steps();
        mostSteps();
        goingRound();
        cutTowardsZero();
        reads();
        outs();
        lost();
        indices();
        indexPlaces();
        divisors();
        empty();
        elements();
        boxes();
        rows();
        atOnce();
        calls();
        firstFault();
        valuesDropped();
        variablesEnd();
        droppedInOrder();
        givenAnew();
        statements();
        unnamed();
        wide();
        deepCalls();
        cut();
        House.end("RunEdgesTest");
    }

    private static String main(String body) {
        return SOME + "fn main() { " + body + " }";
    }

    private static House ran(String body, String out) {
        return House.runs(main(body), 0, out);
    }

    /** Fails for a reason at the place that @ marks, having put this out. */
    private static House failed(String text, int why, String out) {
        String free = text.replace("@", "");
        House house = House.runs(free, 1, out);
        told(house, free, text.indexOf('@'), why);
        return house;
    }

    private static void told(House house, String text, int place, int why) {
        House.due("end of " + text, house.it.about(0), 1);
        House.due("place of " + text, house.it.about(1), place);
        House.due("reason of " + text, house.it.about(2), why);
    }

    /** Each statement that begins (an if behind else is none), and each turn of a while (ahead of its test, also the last one). */
    private static void steps() {
        String[][] bodies = {{"", "0"}, {"let a = 1;", "1"}, {"let a: int;", "1"}, {"print 1;", "1"}, {"if y() { }", "2"}, {"if true { } else { }", "1"},
            {"if true { print 1; }", "2"}, {"if false { print 1; }", "1"}, {"if false { } else { print 1; print 2; }", "3"},
            {"if false { } else if true { print 1; }", "2"}, {"if false { } else if false { } else if false { } else { print 1; }", "2"},
            {"if false { } else { if true { print 1; } }", "3"}, {"while false { }", "2"}, {"while false { print 1; }", "2"},
            {"while true { break; }", "3"}, {"let a = 0; while a < 1 { a = 1; }", "5"}, {"let a = 0; while a < 3 { a = a + 1; }", "9"},
            {"let a = 0; while a < 3 { a = a + 1; continue; }", "12"}, {"while true { while true { break; } break; }", "6"},
            {"match new C.V { _ => { } }", "1"}, {"match new C.V { V => { print 1; } _ => { } }", "2"}, {"return;", "1"}, {"return; print 1;", "1"},
            {"t(1);", "2"}, {"t(1); t(2);", "4"}, {"let a = t(1); let b = box(t(2));", "4"}, {"let a = row int []; push(a, 1); pop(a); swap(a, row int []);", "4"},
            {"fail;", "1"}, {"print 1; fail; print 2;", "2"}, {"print 1 / 0;", "1"}, {"if 1 / 0 == 1 { }", "1"}, {"while 1 / 0 == 1 { }", "2"}};
        for (String[] body : bodies) {
            House house = House.taken(main(body[0]));
            int due = Integer.parseInt(body[1]);
            house.it.run(50000);
            House.due("STEPS of " + body[0], house.it.about(3), due);
            int ended = house.it.about(0);
            // With just so many it ends the same, with each smaller number it is cut there.
            for (int most = 1; most <= due; most++) {
                House.due(most + " STEPS of " + body[0], house.it.run(most), most == due ? ended : 2);
                House.due("STEPS of " + most + " in " + body[0], house.it.about(3), most);
            }
        }
    }

    /** At most so many STEPS, 1 .. 50,000. */
    private static void mostSteps() {
        // Through with 2n + 4 STEPS.
        House house = House.taken("fn main() { let a = 0; while a < 24998 { a = a + 1; } print a; }");
        House.due("50000", house.it.run(50000), 0);
        House.due("STEPS", house.it.about(3), 50000);
        House.due("out", house.it.out(0, 1), 24998);
        House.due("49999", house.it.run(49999), 2);
        House.due("STEPS", house.it.about(3), 49999);
        House.due("no out", house.it.about(4), 0);
        House.due("50001", house.it.run(50001), -1);
        House.due("STEPS", house.it.about(3), 49999);
        house = House.taken("fn main() { let a = 0; while a < 24999 { a = a + 1; } }");
        House.due("one too many", house.it.run(50000), 2);
        House.due("STEPS", house.it.about(3), 50000);
        house = House.taken("fn main() { print 1; }");
        for (int most : new int[] {0, -1, -50000, Integer.MIN_VALUE, 50001, Integer.MAX_VALUE}) {
            House.due("run of " + most, house.it.run(most), -1);
            House.due("no run", house.it.about(0), -1);
        }
        House.due("run of 1", house.it.run(1), 0);
        for (int most : new int[] {0, -1, -50000, Integer.MIN_VALUE, 50001, Integer.MAX_VALUE}) {
            House.due("run of " + most, house.it.run(most), -1);
            House.due("the run ahead", house.it.about(4), 1);
        }
        // The same number of STEPS a fn called has.
        house = House.taken("fn f(n: int) { if n > 0 { f(n - 1); } } fn main() { f(30); print 1; }");
        House.due("calls", house.it.run(63), 0);
        House.due("calls", house.it.run(62), 2);
        House.due("calls", house.it.about(4), 0);
    }

    private static final String[] NUMBERS = {"0", "1", "2", "3", "7", "10", "4294967295", "4294967296", "2147483648", "3037000500", "4611686018427387904",
        "9223372036854775806", "9223372036854775807"};

    private static final String PAIR = "fn main() { let a = read; let b = read; print a + b; print a - b; print a * b; print -a; print - -b; print a < b; "
        + "print a <= b; print a > b; print a >= b; print a == b; print a != b; if b != 0 { print a / b; print a % b; } }";

    /** ints are of 64 bits, going round; / and % are cut towards 0: each pair of numbers, with each sign ahead. */
    private static void goingRound() {
        for (String one : NUMBERS) {
            for (String other : NUMBERS) {
                for (int signs = 0; signs < 4; signs++) {
                    pair(new BigInteger((signs & 1) == 0 ? one : "-" + one), new BigInteger((signs & 2) == 0 ? other : "-" + other));
                }
            }
        }
        BigInteger least = new BigInteger("-9223372036854775808");
        for (String number : NUMBERS) {
            for (String sign : new String[] {"", "-"}) {
                pair(least, new BigInteger(sign + number));
                pair(new BigInteger(sign + number), least);
            }
        }
        pair(least, least);
    }

    private static void pair(BigInteger a, BigInteger b) {
        House house = House.taken(PAIR);
        house.it.give(a.longValue());
        house.it.give(b.longValue());
        house.it.run(100);
        int compared = a.compareTo(b);
        long[] due = {a.add(b).longValue(), a.subtract(b).longValue(), a.multiply(b).longValue(), a.negate().longValue(), b.longValue(),
            compared < 0 ? 1 : 0, compared <= 0 ? 1 : 0, compared > 0 ? 1 : 0, compared >= 0 ? 1 : 0, compared == 0 ? 1 : 0, compared != 0 ? 1 : 0,
            b.signum() == 0 ? 0 : a.divide(b).longValue(), b.signum() == 0 ? 0 : a.remainder(b).longValue()};
        for (int i = 0; i < (b.signum() == 0 ? 11 : 13); i++) {
            House.due("print " + i + " of " + a + " and " + b, house.it.out(i, 1), due[i]);
        }
        House.due("entries of " + a + " and " + b, house.it.about(4), b.signum() == 0 ? 11 : 13);
    }

    private static void cutTowardsZero() {
        ran("print 7 / 2; print -7 / 2; print 7 / -2; print -7 / -2;", "3 -3 -3 3");
        ran("print 7 % 2; print -7 % 2; print 7 % -2; print -7 % -2;", "1 -1 1 -1");
        ran("print 1 / 2; print -1 / 2; print 0 / 5; print 0 % -5;", "0 0 0 0");
        ran("let m = -9223372036854775807 - 1; print m / -1; print m % -1; print m / 1; print m * -1; print -m; print m - 1; print m + m;",
            "-9223372036854775808 0 -9223372036854775808 -9223372036854775808 -9223372036854775808 9223372036854775807 0");
        // From the left, and the stronger signs first.
        ran("print 2 - 3 - 4; print 100 / 7 / 2; print 100 % 7 * 2; print 2 * 7 / 4; print 7 / 4 * 2; print 1 + 2 * 3 - 4 / 2 % 2;", "-5 7 4 3 2 7");
        ran("print true or false and false; print (true or false) and false; print not false and false; print not (false and false);", "1 0 0 1");
        ran("print 1 + 1 == 2 and 2 < 1 + 2 or false; print true == (1 < 2); print - 2 * - 3; print not not true; print - - - 1;", "1 1 6 1 -1");
    }

    /** What is given from the first on, 0 behind the last; how many were read, also behind the last. */
    private static void reads() {
        House house = House.taken("fn main() { let k = 0; let s = 0; while k < 201 { let r = read; s = s * 3 + r; if k == 199 { print r; } if k == 200 { print r; } "
            + "k = k + 1; } print s; }");
        long sum = 0;
        for (int i = 0; i < 201; i++) {
            sum = sum * 3 + (i < 200 ? i * 1000003L : 0);
        }
        for (int i = 0; i < 200; i++) {
            House.due("give " + i, house.it.give(i * 1000003L), i + 1);
        }
        House.due("give 201", house.it.give(5), -1);
        for (int turn = 0; turn < 2; turn++) {
            House.due("run", house.it.run(50000), 0);
            House.due("the 200th", house.it.out(0, 1), 199 * 1000003L);
            House.due("the 201st", house.it.out(1, 1), 0);
            House.due("all", house.it.out(2, 1), sum);
            House.due("reads", house.it.about(9), 201);
        }
        house = House.taken("fn main() { print read; if read == 5 { print read; } fail; }");
        int[] due = {2, 2, 3};
        for (int i = 0; i < 3; i++) {
            House.due("run", house.it.run(10), 1);
            House.due("reads", house.it.about(9), due[i]);
            house.it.give(i == 0 ? Long.MIN_VALUE : i == 1 ? 5 : Long.MAX_VALUE);
        }
        House.due("run", house.it.run(10), 1);
        House.due("the least", house.it.out(0, 1), Long.MIN_VALUE);
        House.due("the greatest", house.it.out(1, 1), Long.MAX_VALUE);
        // Of a run that is cut, those that were read till then.
        House.due("run", house.it.run(1), 2);
        House.due("reads", house.it.about(9), 1);
    }

    private static String repeated(String what, int times) {
        return what.repeat(times).trim();
    }

    /** OUT are up to 1,000 entries, of prints and of told records alike. */
    private static void outs() {
        for (int count : new int[] {0, 1, 998, 999, 1000, 1001, 1500}) {
            for (boolean tells : new boolean[] {false, true}) {
                String body = "let i = 0; while i < " + count + " { i = i + 1; " + (tells ? "t(i);" : "print i;") + " }";
                House house = House.taken(main(body));
                House.due("run", house.it.run(50000), 0);
                int entries = Math.min(count, 1000);
                House.due("entries of " + count, house.it.about(4), entries);
                House.due("made of " + count, house.it.about(5), tells ? count : 0);
                House.due("dropped of " + count, house.it.about(6), tells ? count : 0);
                for (int i : new int[] {0, 1, entries - 2, entries - 1, entries, entries + 1, 999, 1000, 1001, Integer.MAX_VALUE, Integer.MIN_VALUE, -1, -2}) {
                    boolean there = i >= 0 && i < entries;
                    House.due("kind of " + i, house.it.out(i, 0), there && tells ? 1 : 0);
                    House.due("number of " + i, house.it.out(i, 1), there ? i + 1 : 0);
                    House.due("nothing of " + i, house.it.out(i, 2), 0);
                    House.due("nothing of " + i, house.it.out(i, -1), 0);
                }
            }
        }
        // A bool is 1 or 0.
        House house = ran("print true; print false; print 1 < 2; print not true; t(7);", "1 0 1 0 !7");
        House.due("kind", house.it.out(0, 0), 0);
        House.due("kind", house.it.out(4, 0), 1);
    }

    /** More are lost, but all else goes on. */
    private static void lost() {
        House house = House.taken(main("let i = 0; let a = t(1); while i < 1100 { print i; i = i + 1; } a = t(2); fail;"));
        House.due("run", house.it.run(50000), 1);
        House.due("entries", house.it.about(4), 1000);
        House.due("last", house.it.out(999, 1), 999);
        House.due("dropped", house.it.about(6), 2);
        House.due("lefts", house.it.lefts(), 0);
        house = House.taken(main("let i = 0; while i < 1000 { print i; i = i + 1; } let a = t(5);"));
        House.due("run", house.it.run(50000), 0);
        House.due("entries", house.it.about(4), 1000);
        House.due("last", house.it.out(999, 1), 999);
        House.due("dropped", house.it.about(6), 1);
    }

    /** 3: an index that is none (at the [). */
    private static void indices() {
        String[] wrong = {"-1", "3", "4", "33", "9223372036854775807", "-9223372036854775807 - 1", "4294967296", "4294967297", "-4294967296", "2147483648"};
        for (String index : wrong) {
            failed(main("let w = row int [5, 6, 7]; print w@[" + index + "];"), 3, "");
            failed(main("let w = row int [5, 6, 7]; w@[" + index + "] = 1;"), 3, "");
            failed(main("let w = row int [5, 6, 7]; let z = & w@[" + index + "];"), 3, "");
            failed(main("let w = row int [5, 6, 7]; let z = &! w@[" + index + "];"), 3, "");
            failed(main("let w = row int [5, 6, 7]; swap(w@[" + index + "], 1);"), 3, "");
            failed(main("let w = row row int [row int [], row int [], row int []]; push(w@[" + index + "], 1);"), 3, "");
            failed(main("let w = row row int [row int [], row int [], row int []]; print len(w@[" + index + "]);"), 3, "");
            failed(main("let w = row row int [row int [], row int [], row int []]; pop(w@[" + index + "]);"), 3, "");
            failed(main("let w = row int [5, 6, 7]; let r = & w; print r^@[" + index + "];"), 3, "");
            failed(main("let w = box(row int [5, 6, 7]); w^@[" + index + "] = 2;"), 3, "");
            failed(main("let w = row P [new P { a: t(1), b: t(2) }]; print w@[" + index + "].b.n;"), 3, "!1 !2");
        }
        ran("let w = row int [5, 6, 7]; print w[0]; print w[2]; w[0] = 8; w[2] = 9; print w[0] + w[1] + w[2];", "5 7 23");
        failed(main("let w = row int []; print w@[0];"), 3, "");
        failed(main("let w = row int [1]; pop(w); print w@[0];"), 3, "");
        ran("let w = row int []; push(w, 4); print w[0];", "4");
        failed(main("let w = row int []; push(w, 4); print w@[1];"), 3, "");
    }

    /** The exps in [ ] from the left, then the act: of more than one that is none the first. */
    private static void indexPlaces() {
        String two = "let w = row row int [row int [1, 2], row int [3]]; ";
        failed(main(two + "print w@[2][5];"), 3, "");
        failed(main(two + "print w[1]@[1];"), 3, "");
        failed(main(two + "print w@[-1][0];"), 3, "");
        failed(main(two + "w@[9][9] = 0;"), 3, "");
        failed(main(two + "w[9][9] = w[1]@[1];"), 3, "");
        failed(main(two + "print w[9][1 @/ 0];"), 2, "");
        failed(main(two + "print w[w[0]@[2]][0];"), 3, "");
        failed(main(two + "print w[5 @% 0][9];"), 2, "");
        failed(main(two + "push(w[9], 1 @/ 0);"), 2, "");
        failed(main(two + "swap(w[9][9], w[0]@[7]);"), 3, "");
        ran(two + "print w[w[0][0]][0];", "3");
        failed(main(two + "print w[0][1] + w[1][0] + w@[2][0] / 0;"), 3, "");
        // It is told at its own [, behind fields, boxes and references.
        failed(SOME + "record R { b: box row row T } fn main() { let r = new R { b: box(row row T [row T [t(1)]]) }; let k = &! r; print k^.b^[0]@[1].n; }", 3, "!1");
        failed(SOME + "record R { b: box row row T } fn main() { let r = new R { b: box(row row T [row T [t(1)]]) }; let k = & r.b; print k^^@[1][0].n; }", 3, "!1");
    }

    /** 2: / or % by 0 (at the sign). */
    private static void divisors() {
        for (String sign : new String[] {"/", "%"}) {
            failed(main("print 1 @" + sign + " 0;"), 2, "");
            failed(main("print 0 @" + sign + " 0;"), 2, "");
            failed(main("print 8 / 2 @" + sign + " (1 - 1);"), 2, "");
            failed(main("print 1 + 8 @" + sign + " read;"), 2, "");
            failed(main("print 8 @" + sign + " 0 / 0;"), 2, "");
            failed(main("let z = 7; let y = z - 7; z = z @" + sign + " y;"), 2, "");
            failed(main("print - (1 @" + sign + " 0);"), 2, "");
            failed(main("let m = -9223372036854775807 - 1; print m " + sign + " -1; print m @" + sign + " 0;"), 2,
                sign.equals("/") ? "-9223372036854775808" : "0");
            ran("if false and 1 " + sign + " 0 == 1 { } if true or 1 " + sign + " 0 == 1 { print 5; }", "5");
            failed(main("if true and 1 @" + sign + " 0 == 1 { }"), 2, "");
            failed(main("if false or 1 @" + sign + " 0 == 1 { }"), 2, "");
            failed(main("while 1 @" + sign + " 0 == 1 { }"), 2, "");
        }
    }

    /** 4: pop of an empty row (at the pop). */
    private static void empty() {
        failed(main("let w = row int []; @pop(w);"), 4, "");
        failed(main("let w = row int []; print @pop(w);"), 4, "");
        failed(main("let w = row int [1, 2]; print pop(w); print pop(w); print @pop(w);"), 4, "2 1");
        failed(main("let w = row int [1]; print pop(w) + @pop(w);"), 4, "");
        failed(main("let w = row row T [row T []]; @pop(w[0]);"), 4, "");
        failed(main("let w = row row T [row T []]; pop(w@[1]);"), 3, "");
        failed(main("let w = box(row T []); let a = t(4); @pop(w^);"), 4, "!4");
        failed(main("let w = row T [t(1), t(2)]; let k = &! w; pop(k^); pop(k^); @pop(k^);"), 4, "!2 !1");
        ran("let w = row int [1]; print pop(w); push(w, 2); print pop(w); print len(w);", "1 2 0");
    }

    /** 5: a 33rd element (at the push), there at once. */
    private static void elements() {
        for (int count : new int[] {0, 1, 31, 32, 33, 40}) {
            String text = main("let w = row int []; let i = 0; while i < " + count + " { @push(w, i); i = i + 1; } print len(w); print w[len(w) - 1];");
            if (count == 0) {
                failed(main("let w = row int []; print len(w); print w@[len(w) - 1];"), 3, "0");
            } else if (count <= 32) {
                House.runs(text.replace("@", ""), 0, count + " " + (count - 1));
            } else {
                failed(text, 5, "");
            }
        }
        StringBuilder all = new StringBuilder();
        for (int i = 0; i < 32; i++) {
            all.append(i == 0 ? "" : ", ").append("t(").append(i).append(")");
        }
        String told = all.toString().replace("t(", "!").replace(")", "").replace(",", "");
        failed(main("let w = row T [" + all + "]; @push(w, t(99));"), 5, "!99 " + told);
        ran("let w = row T [" + all + "]; pop(w); push(w, t(99));", "!31 " + told.replace("!31", "!99"));
        // In each of two rows so many.
        ran("let w = row row int [row int [], row int []]; let i = 0; while i < 64 { push(w[i / 32], i); i = i + 1; } print len(w[0]) + len(w[1]); print w[1][31];", "64 63");
        failed(main("let w = row row int [row int [], row int []]; let i = 0; while i < 65 { @push(w[i / 33], i); i = i + 1; }"), 5, "");
        // The index is looked at ahead of what is pushed.
        failed(main("let w = row row int []; push(w@[0], 1);"), 3, "");
    }

    private static final String CHAIN = "choice L { E, N(box L) } fn chain(n: int) -> L { let l = new L.E; let i = 0; while i < n { l = new L.N(box(l)); i = i + 1; } "
        + "return l; } ";

    /** 5: a 201st box (at the box), there at once. */
    private static void boxes() {
        for (int count : new int[] {0, 1, 199, 200}) {
            House house = House.runs(CHAIN + "fn main() { let l = chain(" + count + "); print 1; }", 0, "1");
            House.due("most boxes", house.it.about(7), count);
            House.due("most rows", house.it.about(8), 0);
        }
        String text = CHAIN + "fn main() { let l = chain(201); print 1; }";
        House house = House.runs(text, 1, "");
        told(house, text, text.indexOf("box(l)"), 5);
        House.due("most boxes", house.it.about(7), 200);
        // At 199 one more is there, at 200 none.
        House.runs(CHAIN + "fn main() { let l = chain(199); let b = box(1); print b^; }", 0, "1");
        failed(CHAIN + "fn main() { let l = chain(200); let b = @box(1); print b^; }", 5, "");
        failed(CHAIN + "fn main() { let l = chain(199); let b = @box(box(1)); }", 5, "");
        failed(CHAIN + "fn main() { let l = chain(199); let b = box(1); b = @box(2); }", 5, "");
        failed(SOME + CHAIN + "fn main() { let l = chain(200); let b = @box(t(7)); }", 5, "!7");
        // One that is dropped, opened, or given away with what is gone, is no more.
        House.runs(CHAIN + "fn main() { let l = chain(199); let b = box(1); print open(b); let c = box(2); print c^; }", 0, "1 2");
        House.runs(CHAIN + "fn main() { let l = chain(199); if true { let b = box(1); } let c = box(2); print c^; }", 0, "2");
        House.runs(CHAIN + "fn main() { let l = chain(200); l = new L.E; let m = chain(200); print 1; }", 0, "1");
        House.runs(CHAIN + "fn main() { chain(200); chain(200); let m = chain(200); match m { _ => { chain(200); } } print 1; }", 0, "1");
        House.runs(CHAIN + "fn main() { match chain(200) { N(_) => { chain(200); } E => { } } match chain(200) { N(b) => { let l = open(b); let c = box(l); } E => { } } }", 0, "");
        House.runs(CHAIN + "fn f(a: box int) { } fn main() { let i = 0; while i < 300 { f(box(i)); let b = box(i); i = i + 1; } }", 0, "");
        house = House.runs("fn main() { let i = 0; while i < 300 { let b = box(box(i)); let c = open(b); i = i + 1; } }", 0, "");
        House.due("most boxes", house.it.about(7), 2);
        // Each run has them all again.
        house = House.taken(CHAIN + "fn main() { let l = chain(200); while true { } }");
        for (int i = 0; i < 3; i++) {
            House.due("run", house.it.run(2000), 2);
            House.due("most boxes", house.it.about(7), 200);
        }
    }

    private static final String ROWS = "fn fill(r: &! row row int, n: int) { while len(r^) < n { push(r^, row int []); } } ";

    /** 5: a 61st row (at the row), there at once. */
    private static void rows() {
        String two = "let a = row row int []; let b = row row int []; fill(&! a, 32); ";
        for (int count : new int[] {0, 25, 26}) {
            House house = House.runs(ROWS + "fn main() { " + two + "fill(&! b, " + count + "); print 1; }", 0, "1");
            House.due("most rows", house.it.about(8), 34 + count);
            House.due("most boxes", house.it.about(7), 0);
        }
        String text = ROWS + "fn main() { " + two + "fill(&! b, 27); print 1; }";
        House house = House.runs(text, 1, "");
        told(house, text, text.indexOf("row int [])"), 5);
        House.due("most rows", house.it.about(8), 60);
        String full = ROWS + "fn main() { " + two + "fill(&! b, 26); ";
        failed(full + "let c = @row int []; }", 5, "");
        failed(full + "let c = @row int [1, 2, 3]; }", 5, "");
        failed(full + "a[0] = @row int []; }", 5, "");
        failed(full + "swap(a[0], @row int []); }", 5, "");
        failed(full + "print len(b[25]) + len(a[31]); push(b, @row int []); }", 5, "0");
        failed(SOME + full + "let c = @row T [t(1), t(2)]; }", 5, "!2 !1");
        // One that is dropped is no more: with all that it holds.
        House.runs(full + "pop(a); let c = row int []; }", 0, "");
        House.runs(full + "pop(b); a = row row int []; }", 0, "");
        failed(full + "a = @row row int []; }", 5, "");
        House.runs(full + "pop(b); a = row row int []; fill(&! a, 32); print len(a); }", 0, "32");
        House.runs("fn main() { let i = 0; while i < 100 { let r = row row int [row int [i], row int []]; i = i + 1; } }", 0, "");
        house = House.runs("fn f(r: row int) -> int { return len(r); } fn main() { let i = 0; while i < 100 { i = i + f(row int [i]); } }", 0, "");
        House.due("most rows", house.it.about(8), 1);
        house = House.taken(full + "while true { } }");
        for (int i = 0; i < 3; i++) {
            House.due("run", house.it.run(2000), 2);
            House.due("most rows", house.it.about(8), 60);
        }
    }

    /** Rows and boxes are counted apart; a place is taken when it is made, behind its exps. */
    private static void atOnce() {
        House house = House.runs(CHAIN + ROWS + "fn main() { let l = chain(200); let a = row row int []; let b = row row int []; fill(&! a, 32); fill(&! b, 26); print 1; }", 0, "1");
        House.due("most boxes", house.it.about(7), 200);
        House.due("most rows", house.it.about(8), 60);
        house = ran("let a = box(box(box(1))); print a^^^;", "1");
        House.due("most boxes", house.it.about(7), 3);
        house = ran("let a = open(open(open(box(box(box(1)))))); print a;", "1");
        House.due("most boxes", house.it.about(7), 3);
        house = ran("let a = box(open(box(1))); print a^;", "1");
        House.due("most boxes", house.it.about(7), 1);
        house = ran("let a = box(1); a = box(2); a = box(3); print a^;", "3");
        House.due("most boxes", house.it.about(7), 2);
        house = ran("let a = box(1); let b = open(a); a = box(2); print a^ + b;", "3");
        House.due("most boxes", house.it.about(7), 1);
        house = ran("let a = row row int [row int [], row int []]; print len(a);", "2");
        House.due("most rows", house.it.about(8), 3);
        house = ran("let a = row int [1]; a = row int []; print len(a);", "0");
        House.due("most rows", house.it.about(8), 2);
        // Behind its exps: of what fails in them there is no place, and no drop.
        house = failed(main("let a = box(1 @/ 0);"), 2, "");
        House.due("most boxes", house.it.about(7), 0);
        house = failed(main("let a = row int [1, 1 @/ 0];"), 2, "");
        House.due("most rows", house.it.about(8), 0);
        house = failed(main("let a = box(row int [1 @/ 0]);"), 2, "");
        House.due("most boxes", house.it.about(7), 0);
        house = failed(main("let a = row box int [box(1), box(1 @/ 0)];"), 2, "");
        House.due("most boxes", house.it.about(7), 1);
        // Where a box fails the exp's value was worked out.
        failed(SOME + CHAIN + "fn main() { let l = chain(200); let b = row box T [@box(t(1))]; }", 5, "!1");
        failed(SOME + CHAIN + "fn main() { let l = chain(200); two(t(1), t(open(@box(2)))); }", 5, "!1");
    }

    /** 6: a 41st call that is open, main too (at the call's name). */
    private static void calls() {
        String count = "fn f(n: int) -> int { if n == 0 { return 0; } return 1 + @f(n - 1); } fn main() { print f(#); }";
        for (int deep : new int[] {0, 1, 37, 38}) {
            House.runs(count.replace("@", "").replace("#", "" + deep), 0, "" + deep);
        }
        for (int deep : new int[] {39, 40, 100, -1}) {
            failed(count.replace("#", "" + deep), 6, "");
        }
        failed("fn main() { print 1; @main(); }", 6, repeated("1 ", 40));
        failed("fn f() { @g(); } fn g() { f(); } fn main() { f(); }", 6, "");
        failed("fn f() { g(); } fn g() { @f(); } fn main() { g(); }", 6, "");
        // One that is over is open no more; those of arguments are over.
        House.runs("fn f() { } fn main() { let i = 0; while i < 100 { f(); i = i + 1; } print i; }", 0, "100");
        House.runs("fn f(n: int) -> int { if n > 0 { return f(n - 1); } return 7; } fn main() { print f(f(38) + 31); print f(38); }", 0, "7 7");
        failed("fn f(n: int) -> int { if n > 0 { return @f(n - 1); } return 7; } fn main() { print f(f(38) + 32); }", 6, "");
        // What its arguments have is dropped, the latest first, then call by call.
        failed(SOME + "fn f(a: T, b: T) { let k = a.n; @f(new T { n: k + 1 }, new T { n: k + 101 }); } fn main() { f(t(0), t(100)); }", 6, deep());
        // The call of an argument is the one too many.
        failed(SOME + "fn f(a: T) { let k = a.n; f(@t(k + 1)); } fn main() { f(t(0)); }", 6, down(38));
    }

    private static String down(int from) {
        StringBuilder all = new StringBuilder();
        for (int n = from; n >= 0; n--) {
            all.append(n == from ? "!" : " !").append(n);
        }
        return all.toString();
    }

    private static String deep() {
        StringBuilder all = new StringBuilder("!139 !39");
        for (int n = 38; n >= 0; n--) {
            all.append(" !").append(n + 100).append(" !").append(n);
        }
        return all.toString();
    }

    private static void firstFault() {
        failed(main("@fail; fail;"), 1, "");
        failed(main("print 1; if y() { @fail; } print 1 / 0;"), 1, "1");
        failed(main("print 1 @/ 0; fail;"), 2, "");
        failed(main("let w = row int []; print w[@pop(w)];"), 4, "");
        failed(SOME + "fn g() { @fail; } fn main() { g(); print 1; }", 1, "");
        failed(SOME + "fn g() -> int { @fail; } fn main() { print 1 / g(); }", 1, "");
        House house = failed(main("let a = t(3); @fail;"), 1, "!3");
        House.due("STEPS", house.it.about(3), 3);
        House.due("entries", house.it.about(4), 1);
        House.due("made", house.it.about(5), 1);
        House.due("dropped", house.it.about(6), 1);
    }

    /** Its values that were worked out and are not used yet are dropped, the latest first. */
    private static void valuesDropped() {
        failed(main("two(t(1), t(1 @/ 0));"), 2, "!1");
        failed(main("let w = row T [t(1), t(2), t(1 @/ 0)];"), 2, "!2 !1");
        failed(main("let p = new P { b: t(1), a: t(1 @/ 0) };"), 2, "!1");
        failed(main("let p = new N { b: box(t(1)), r: row T [t(2), t(3)], a: t(4), n: 1 @/ 0 };"), 2, "!4 !2 !3 !1");
        failed(main("let c = new C.W(t(1), 2, t(1 @/ 0));"), 2, "!1");
        failed(main("let c = new C.W(t(1), 2 @% 0, t(3));"), 2, "!1");
        failed(main("let c = new C.X(box(new C.W(t(1), 2, t(1 @/ 0))));"), 2, "!1");
        failed(main("let w = row T []; w@[0] = t(1);"), 3, "!1");
        failed(main("let w = row T []; swap(w@[0], t(1));"), 3, "!1");
        failed(main("let w = row row T []; push(w@[0], t(1));"), 3, "!1");
        failed(main("let w = row T []; two(t(1), @pop(w));"), 4, "!1");
        failed(main("let w = row T [t(9)]; two(pop(w), t(1 @/ 0));"), 2, "!9");
        failed(main("let p = new P { a: t(1), b: t(2) }; two(p.b, t(1 @/ 0));"), 2, "!2 !1");
        failed(main("let p = new P { a: t(1), b: t(2) }; two(p.a, t(1 @/ 0));"), 2, "!1 !2");
        failed(main("let a = t(1); let b = t(2); let w = row T [b, a, t(1 @/ 0)];"), 2, "!1 !2");
        failed(main("let a = t(1); let b = t(2); two(swap(a, t(3)), t(1 @/ 0));"), 2, "!1 !2 !3");
        failed(main("let w = row row T [row T [t(1), t(2)], row T [t(3), t(1 @/ 0)]];"), 2, "!3 !1 !2");
        failed(main("let w = row P [new P { a: t(1), b: t(2) }, new P { b: t(3), a: t(1 @/ 0) }];"), 2, "!3 !1 !2");
        failed(main("let b = row box T [box(t(1)), box(t(2)), box(t(1 @/ 0))];"), 2, "!2 !1");
        failed(main("match new C.W(t(1), 1 @/ 0, t(2)) { _ => { } }"), 2, "!1");
        // Of a call that is open what its caller has worked out goes behind its own.
        failed(SOME + "fn g(a: T) -> T { let b = t(5); two(b, t(1 @/ 0)); fail; } fn main() { let c = t(1); let w = row T [t(2), t(3), g(t(4))]; }", 2, "!5 !4 !3 !2 !1");
        failed(SOME + "fn g(a: T) -> int { @fail; } fn main() { let c = t(1); let w = row int [1, g(c)]; }", 1, "!1");
        failed(SOME + "fn g(a: & T) -> int { @fail; } fn main() { let c = t(1); let d = t(9); let w = new N { a: t(3), r: row T [c], b: box(t(2)), "
            + "n: g(& d) }; }", 1, "!2 !1 !3 !9");
    }

    /** And then its variables END: what has a value, LEAVES in order, the latest variable first. */
    private static void variablesEnd() {
        failed(main("let a = t(1); let b = t(2); if true { let c = t(3); while true { let d = t(4); @fail; } }"), 1, "!4 !3 !2 !1");
        failed(main("let a = t(1); if true { let b = t(2); } @fail;"), 1, "!2 !1");
        failed(main("let a = t(1); e(a); let b = t(2); @fail;"), 1, "!1 !2");
        failed(main("let p = new P { a: t(1), b: t(2) }; e(p.a); @fail;"), 1, "!1 !2");
        failed(main("let p: P; p.b = t(2); @fail;"), 1, "!2");
        failed(main("let p: P; p.b = t(2); p.a = t(1); let q: P; q.a = t(3); @fail;"), 1, "!3 !1 !2");
        failed(main("match new C.W(t(1), 2, t(3)) { W(a, b, c) => { let d = t(4); @fail; } _ => { } }"), 1, "!4 !3 !1");
        failed(main("match new C.W(t(1), 2, t(3)) { W(_, b, c) => { @fail; } _ => { } }"), 1, "!1 !3");
        failed(main("match new C.W(t(1), 2, t(3)) { W(a, b, c) => { e(a); @fail; } _ => { } }"), 1, "!1 !3");
        failed(main("let a = t(1); let r = &! a; let b = & r^; @fail;"), 1, "!1");
        failed(main("let i = 0; while true { let a = t(i); i = i + 1; if i == 3 { @fail; } }"), 1, "!0 !1 !2");
        failed(SOME + "fn g(a: T, b: P, c: int, d: & T) { let k = t(5); @fail; } fn main() { let a = t(1); let d = t(2); g(a, new P { b: t(3), a: t(4) }, 1, & d); }",
            1, "!5 !4 !3 !1 !2");
    }

    /** A told record tells, then its fields in order; a record its fields; a choice its parts; a box what is in it; a row from the first on. */
    private static void droppedInOrder() {
        ran("let n = new N { b: box(t(4)), r: row T [t(2), t(3)], a: t(1), n: 0 };", "!0 !1 !2 !3 !4");
        ran("let p = new P { b: t(2), a: t(1) };", "!1 !2");
        ran("let c = new C.W(t(1), 5, t(2));", "!1 !2");
        ran("let c = new C.X(box(new C.X(box(new C.W(t(1), 5, t(2))))));", "!1 !2");
        ran("let c = new C.V; let d = new C.X(box(new C.V)); print 1;", "1");
        ran("let b = box(t(1)); let d = box(box(new P { a: t(2), b: t(3) }));", "!2 !3 !1");
        ran("let r = row row T [row T [t(1), t(2)], row T [], row T [t(3)]];", "!1 !2 !3");
        ran("let r = row box N [box(new N { n: 1, a: t(2), r: row T [], b: box(t(3)) }), box(new N { n: 4, a: t(5), r: row T [t(6)], b: box(t(7)) })];",
            "!1 !2 !3 !4 !5 !6 !7");
        ran("let r = row T [t(1), t(2), t(3)]; pop(r); push(r, t(4)); r[0] = t(5); print 0;", "!3 !1 0 !5 !2 !4");
        ran("let a = 1; let b = true; let c = & a; let d = row int [1]; let e = box(2); print 3;", "3");
        // A told record tells what its first field has by then.
        ran("let a = t(1); a.n = 7; let n = new N { n: 0, a: t(1), r: row T [t(2)], b: box(t(3)) }; n.n = 10; n.a.n = 11; n.r[0].n = 12; n.b^.n = 13;",
            "!10 !11 !12 !13 !7");
        ran("let a = t(9223372036854775807); a.n = a.n + 1;", "!-9223372036854775808");
    }

    /** What a LEAF or place has when it is given another one: ahead of that, LEAVES in order. */
    private static void givenAnew() {
        ran("let p = new P { a: t(1), b: t(2) }; p = new P { b: t(4), a: t(3) }; print 0;", "!1 !2 0 !3 !4");
        ran("let p = new P { a: t(1), b: t(2) }; e(p.a); print 5; p = new P { b: t(4), a: t(3) }; print 0;", "!1 5 !2 0 !3 !4");
        ran("let p = new P { a: t(1), b: t(2) }; p.a = t(3); print 0; p.b = t(4);", "!1 0 !2 !3 !4");
        ran("let p: P; p.b = t(1); p = new P { a: t(2), b: t(3) }; print 0;", "!1 0 !2 !3");
        ran("let p: P; p = new P { a: t(2), b: t(3) }; print 0;", "0 !2 !3");
        ran("let p = new P { a: t(1), b: t(2) }; let q = p; p = new P { a: t(3), b: t(4) }; print 0;", "0 !1 !2 !3 !4");
        ran("let p = new P { a: t(1), b: t(2) }; p = p; p.a = p.b; print 0;", "!1 0 !2");
        ran("let p = new P { a: t(1), b: t(2) }; p = new P { a: p.b, b: p.a }; print 0;", "0 !2 !1");
        ran("let b = box(new P { a: t(1), b: t(2) }); b^ = new P { a: t(3), b: t(4) }; b^.b = t(5); print 0;", "!1 !2 !4 0 !3 !5");
        ran("let w = row P [new P { a: t(1), b: t(2) }]; w[0] = new P { a: t(3), b: t(4) }; w[0].a = t(5); print 0;", "!1 !2 !3 0 !5 !4");
        ran("let a = t(1); let r = &! a; r^ = t(2); print 0;", "!1 0 !2");
        ran("let p = new P { a: t(1), b: t(2) }; let r = &! p; r^ = new P { a: t(3), b: t(4) }; r^.a = t(5); print 0;", "!1 !2 !3 0 !5 !4");
        ran("let c = new C.W(t(1), 0, t(2)); c = new C.X(box(c)); print 0; c = new C.V; print 3;", "0 !1 !2 3");
        ran("let n = new N { n: 0, a: t(1), r: row T [t(2)], b: box(t(3)) }; n.r = row T []; n.b = box(t(4)); n.a = t(5); print 9;", "!2 !3 !1 9 !0 !5 !4");
        // The exp first, then the drop.
        ran("let a = t(1); a = t(a.n + 1); print a.n;", "!1 2 !2");
        ran("let i = 0; while i < 3 { let a: T; if i == 1 { a = t(7); } i = i + 1; } print 0;", "!7 0");
        // A swap drops nothing, but as a statement.
        ran("let a = t(1); let b = swap(a, t(2)); print 0; swap(a, t(3)); print 4;", "0 !2 4 !1 !3");
    }

    /** What a call, pop or swap that is a statement gives is dropped. */
    private static void statements() {
        ran("t(1); print 0;", "!1 0");
        ran("let w = row T [t(1), t(2)]; pop(w); print 0;", "!2 0 !1");
        ran("let w = row P [new P { a: t(1), b: t(2) }]; pop(w); print 0;", "!1 !2 0");
        ran("let a = row T [t(1)]; swap(a, row T [t(2), t(3)]); print 0;", "!1 0 !2 !3");
        House.runs(SOME + "fn g(c: & T) -> & T of c { return c; } fn h() -> C { return new C.X(box(new C.W(t(1), 0, t(2)))); } fn main() { let a = t(5); g(& a); h(); print 0; }",
            0, "!1 !2 0 !5");
        ran("let a = 1; swap(a, 2); y(); print a;", "2");
    }

    /** Parts that no bind names (_ too), in order, at the beginning of the arm (all of them for _). */
    private static void unnamed() {
        String c = "new C.W(t(1), 5, t(2))";
        ran("match " + c + " { W(_, _, _) => { print 0; } _ => { } }", "!1 !2 0");
        ran("match " + c + " { W(a, _, _) => { print 0; } _ => { } }", "!2 0 !1");
        ran("match " + c + " { W(_, b, c) => { print b; } _ => { } }", "!1 5 !2");
        ran("match " + c + " { W(a, b, c) => { print b; } _ => { } }", "5 !2 !1");
        ran("match " + c + " { _ => { print 0; } }", "!1 !2 0");
        ran("match " + c + " { V => { } _ => { print 0; } }", "!1 !2 0");
        ran("match new C.X(box(" + c + ")) { X(_) => { print 0; } _ => { } }", "!1 !2 0");
        ran("match new C.X(box(" + c + ")) { X(b) => { print 0; } _ => { } }", "0 !1 !2");
        ran("match new C.X(box(" + c + ")) { X(b) => { match open(b) { W(_, _, d) => { print 0; } _ => { } } } _ => { } }", "!1 0 !2");
        // Of a & or &! nothing is dropped.
        ran("let c = " + c + "; match & c { W(_, b, _) => { print b^; } _ => { } } match &! c { _ => { print 7; } } match & c { W(a, _, _) => { } _ => { } } print 8;",
            "5 7 8 !1 !2");
        // The match's own value is gone, though not a part is named.
        ran("let c = " + c + "; match c { _ => { print 0; } } c = new C.V; print 3;", "!1 !2 0 3");
    }

    private static final String WIDE = "record W told { a: int, b: int, c: int, d: int, e: int, f: int, g: int, h: int } fn w(n: int) -> W { return new W { a: n, "
        + "b: n + 1, c: n + 2, d: n + 3, e: n + 4, f: n + 5, g: n + 6, h: n + 7 }; } fn all(w: & W) -> int { return (w^.a * 1000 + w^.b * 100 + w^.c * 10 + w^.d) * 10000 "
        + "+ w^.e * 1000 + w^.f * 100 + w^.g * 10 + w^.h; } ";

    /** Values of eight cells, the most there can be, are whole wherever they go. */
    private static void wide() {
        String whole = "12345678";
        House.runs(WIDE + "fn main() { let a = w(1); print all(& a); let b = a; print all(& b); let c = box(b); print all(& c^); let d = open(c); print all(& d); "
            + "let r = row W [w(3), d, w(5)]; print all(& r[1]); print all(& r[0]); print all(& r[2]); }", 0,
            whole + " " + whole + " " + whole + " " + whole + " " + whole + " 34567900 56790122 !3 !1 !5");
        // A swap, also behind a reference, in a box and in a row.
        House.runs(WIDE + "fn main() { let a = w(1); let b = swap(a, w(2)); print all(& a); print all(& b); }", 0, "23456789 " + whole + " !1 !2");
        House.runs(WIDE + "fn main() { let a = w(1); let k = &! a; let b = swap(k^, w(2)); print all(& a); print all(& b); }", 0, "23456789 " + whole + " !1 !2");
        House.runs(WIDE + "fn main() { let a = row W [w(2), w(1), w(2)]; let b = swap(a[1], w(3)); print all(& a[0]); print all(& a[1]); print all(& a[2]); print all(& b); }", 0,
            "23456789 34567900 23456789 " + whole + " !1 !2 !3 !2");
        // Boxes side by side, one made anew between others.
        House.runs(WIDE + "fn main() { let a = box(w(1)); let b = box(w(2)); a = box(w(1)); let c = box(w(2)); print all(& a^); print all(& b^); print all(& c^); "
            + "let d = open(a); let e = box(d); print all(& e^); print all(& b^); print all(& c^); }", 0,
            "!1 " + whole + " 23456789 23456789 " + whole + " 23456789 23456789 !1 !2 !2");
        // Full rows side by side.
        String fill = "fn fill(r: &! row W, n: int) { while len(r^) < 32 { push(r^, w(n)); } } ";
        House house = House.taken(WIDE + fill + "fn main() { let a = row W []; let b = row W []; let c = row W []; fill(&! a, 1); fill(&! c, 3); fill(&! b, 2); "
            + "print all(& a[0]) - 12345678; print all(& a[31]) - 12345678; print all(& b[0]) - 23456789; print all(& b[31]) - 23456789; print all(& c[0]) - 34567900; "
            + "print all(& c[31]) - 34567900; print len(a) + len(b) + len(c); }");
        House.due("run", house.it.run(50000), 0);
        for (int i = 0; i < 6; i++) {
            House.due("element " + i, house.it.out(i, 1), 0);
        }
        House.due("elements", house.it.out(6, 1), 96);
        House.due("dropped", house.it.about(6), 96);
        // Parts of a choice, and params and results between others.
        House.runs(WIDE.replace(", h: int", "").replace(", h: n + 7", "").replace(" + w^.h", "") + "choice K { A, B(W) } fn f(i: int, k: K, j: int) -> K { match & k { "
            + "B(w) => { print all(w) + i + j; } _ => { } } return k; } fn main() { let k = f(1, new K.B(w(1)), 2); match k { B(w) => { print all(& w); } _ => { } } }", 0,
            "12345673 12345670 !1");
    }

    /** Calls that are open have room for all their variables and values, each its own. */
    private static void deepCalls() {
        StringBuilder lets = new StringBuilder();
        for (int i = 0; i < 36; i++) {
            lets.append("let v").append(i).append(": W; ");
        }
        String text = WIDE + "fn f(n: int) -> int { " + lets + "if n > 0 { let m = f(n - 1); return m + n; } return 0; } fn main() { print f(#); }";
        for (int deep = 0; deep <= 38; deep++) {
            House.runs(text.replace("#", "" + deep), 0, "" + deep * (deep + 1) / 2);
        }
        String row = "fn f(n: int) -> int { if n == 0 { return 0; } let r = row int [" + "n, ".repeat(31) + "f(n - 1)]; return r[0] + r[30] + r[31]; } fn main() { print f(#); }";
        for (int deep = 0; deep <= 38; deep++) {
            House.runs(row.replace("#", "" + deep), 0, "" + deep * (deep + 1));
        }
        // What a caller has is no value of the one it calls.
        String call = "fn g(x: int) { let a: T; let b: T; if x == 5 { a = t(5); b = t(6); } let c: P; if x == 6 { c.a = t(7); } } ";
        House.runs(SOME + call + "fn main() { let a = t(1); let b = t(2); let c = new P { a: t(3), b: t(4) }; g(0); g(5); print 0; g(6); }", 0, "!6 !5 0 !7 !3 !4 !2 !1");
        House.runs(SOME + call + "fn main() { let a = t(1); let b = t(2); let c = new P { a: t(3), b: t(4) }; g(1); fail; }", 1, "!3 !4 !2 !1");
        // Nor is what was used up: behind an open, a push, a pop, a swap, a match, a test.
        failed(main("let b = box(t(1)); let a = open(b); @fail;"), 1, "!1");
        failed(main("let b = box(box(t(1))); let a = open(open(b)); two(a, t(1 @/ 0));"), 2, "!1");
        failed(main("let r = row T [t(1)]; let a = pop(r); push(r, a); swap(r[0], t(2)); @fail;"), 1, "!1 !2");
        failed(main("if y() and y() or y() { while y() { match new C.W(t(1), 2, t(3)) { W(a, _, _) => { @fail; } _ => { } } } }"), 1, "!3 !1");
        failed(main("let a = t(1); let p = new P { a: a, b: t(2) }; let q = new C.W(p.a, 1, p.b); let r = row C [q]; @fail;"), 1, "!1 !2");
    }

    /** CUT at once: nothing is dropped, nothing is left. */
    private static void cut() {
        House house = House.taken(main("let a = t(1); let b = box(t(2)); let w = row T [t(3)]; two(t(4), t(5)); print 6;"));
        house.it.run(50000);
        int all = house.it.about(3);
        House.same("through", house.out(), "0 !5 !4 6 !3 !2 !1");
        int[] made = new int[all + 1];
        for (int most = 1; most < all; most++) {
            House.due("run", house.it.run(most), 2);
            House.due("how", house.it.about(0), 2);
            House.due("place", house.it.about(1), -1);
            House.due("why", house.it.about(2), -1);
            House.due("STEPS", house.it.about(3), most);
            made[most] = house.it.about(5);
            House.due("made", made[most] >= made[most - 1] ? 1 : 0, 1);
            House.due("lefts", house.it.lefts(), 0);
            House.due("strays", house.it.strays(), 0);
            House.due("twices", house.it.twices(), 0);
            House.due("clashes", house.it.clashes(), 0);
        }
        House.due("made ahead of the last STEP", made[all - 1], 5);
        House.due("dropped", house.it.about(6), 2);
        House.due("most boxes", house.it.about(7), 1);
        House.due("most rows", house.it.about(8), 1);
        // Cut within a call, in an exp.
        house = House.taken(main("let w = row T [t(1), t(2)];"));
        House.due("run", house.it.run(2), 2);
        House.due("made", house.it.about(5), 1);
        House.due("rows", house.it.about(8), 0);
        House.due("out", house.it.about(4), 0);
    }
}
