import java.util.Arrays;

/**
 * The promises as calls: bytes fed, arguments below 0 or beyond what there is, calls ahead of any program or run, what stays.
 * No object is asked more often than 512 times.
 */
public final class CallEdgesTest {
    private static final int[] ODD = {Integer.MIN_VALUE, -1000, -2, -1, 0, 1, 2, 3, 4, 5, 6, 7, 8, 9, 10, 11, 200, 400, 1000, 3000, Integer.MAX_VALUE};
    private static final int BLANKS = 0x20202020;
    private static final String GOOD = "record T told { n: int } choice C { A, B(T) } fn f(a: &! int, b: & int) { a^ = b^; let c = & b^; } "
        + "fn main() { let a = read; let b = 7; f(&! a, & b); print a; let t = new T { n: 2 }; let r = box(row int [a]); if a == 7 { print r^[0]; } }";
    private static final String[] BAD = {"(", "fn main() { ", "fn main() { \u0001 }", "fn main() { print a; }", "record R { a: R } fn main() { }", "",
        "fn main() { let a: int; print a; }", "fn main() { let a = box(1); let b = a; let c = a; }",
        "fn main() { let a = 1; let b = & a; a = 2; print b^; }", "fn f(a: & int) -> & int { return a; } fn main() { }"};
    private static final int[] KIND = {1, 1, 1, 2, 2, 2, 3, 3, 4, 4};

    public static void main(String[] args) {
        fresh();
        noProgram();
        bytes();
        fed();
        judged();
        faults();
        gives();
        runs();
        asked();
        notRun();
        stays();
        staysLater();
        nothingLeft();
        textAfterText();
        tokens();
        anew();
        House.end("CallEdgesTest");
    }

    /** No text, no program. */
    private static void fresh() {
        House.due("NONE", LoanHouse.NONE, -1);
        for (int n : ODD) {
            House.due("judge of " + n, new LoanHouse().judge(n), n == 0 ? 2 : -1);
            LoanHouse x = new LoanHouse();
            x.judge(n);
            House.due("fault ahead of any", x.fault(0), n == 0 ? 2 : -1);
        }
        for (int i : ODD) {
            without(new LoanHouse(), i);
        }
    }

    /** The same while texts have FAULTS and nothing else was judged. */
    private static void noProgram() {
        for (int i = 0; i < BAD.length; i++) {
            for (int odd : ODD) {
                House house = new House();
                House.due("judge of " + BAD[i], house.judge(BAD[i]), KIND[i]);
                house.it.give(3);
                without(house.it, odd);
                House.due("fault", house.it.fault(0), KIND[i]);
            }
        }
    }

    /** All that is asked of a program or a run, where there is none. */
    private static void without(LoanHouse x, int i) {
        House.due("run of " + i, x.run(i), -1);
        House.due("about " + i, x.about(i), -1);
        House.due("count " + i, x.count(i), i >= 0 && i <= 3 ? 0 : -1);
        House.due("size " + i, x.size(i), -1);
        for (int what : ODD) {
            House.due("out " + i, x.out(i, what), 0);
            House.due("place " + i, x.place(i, what), -1);
            House.due("loan " + i, x.loan(i, what), -1);
            House.due("force " + i, x.force(i, what), -1);
            House.due("function " + i, x.function(i, what), -1);
        }
        House.due("run of 50000", x.run(50000), -1);
        House.due("strays", x.strays(), 0);
        House.due("twices", x.twices(), 0);
        House.due("lefts", x.lefts(), 0);
        House.due("clashes", x.clashes(), 0);
    }

    /** Twenty bytes, four of each number, the highest first. */
    private static void bytes() {
        for (int at = 0; at < 20; at++) {
            int[] numbers = {BLANKS, BLANKS, BLANKS, BLANKS, BLANKS};
            // A ) with which no text begins, and a byte that no text holds.
            for (int sign : new int[] {')', 0, 128, 255}) {
                int shift = 24 - at % 4 * 8;
                numbers[at / 4] = BLANKS & ~(255 << shift) | sign << shift;
                LoanHouse x = new LoanHouse();
                House.due("feed", x.feed(numbers[0], numbers[1], numbers[2], numbers[3], numbers[4]), 20);
                House.due("judge of byte " + at, x.judge(20), 1);
                House.due("place of byte " + at, x.fault(1), at);
                x.feed(numbers[0], numbers[1], numbers[2], numbers[3], numbers[4]);
                House.due("judge ahead of byte " + at, x.judge(at), 2);
                House.due("place ahead of byte " + at, x.fault(1), at);
                x.feed(numbers[0], numbers[1], numbers[2], numbers[3], numbers[4]);
                House.due("judge to byte " + at, x.judge(at + 1), 1);
                House.due("place of byte " + at, x.fault(1), at);
            }
        }
        House house = new House();
        House.due("feed", house.feed("fn main() { print -12345; }"), 40);
        House.due("judge", house.it.judge(27), 0);
        House.due("run", house.it.run(1), 0);
        House.due("out", house.it.out(0, 1), -12345);
    }

    /** They come behind the text: how many there are; NONE if there would be more than 3,000. */
    private static void fed() {
        LoanHouse x = new LoanHouse();
        for (int i = 1; i <= 150; i++) {
            House.due("feed " + i, x.feed(BLANKS, BLANKS, BLANKS, BLANKS, BLANKS), 20 * i);
        }
        for (int i = 0; i < 3; i++) {
            House.due("feed beyond 3000", x.feed(0, 0, 0, 0, 0), -1);
        }
        // What was refused is not there: all are blanks still.
        House.due("judge of 3001", x.judge(3001), -1);
        House.due("judge of 3000", x.judge(3000), 2);
        House.due("place", x.fault(1), 3000);
        // Then there is none.
        House.due("judge of what is gone", x.judge(1), -1);
        House.due("feed anew", x.feed(BLANKS, BLANKS, BLANKS, BLANKS, BLANKS), 20);
        // A program of 2999 and of 3000 bytes, the last of which counts.
        String text = "fn main() { print 5; }";
        for (int length : new int[] {2980, 2999, 3000}) {
            House house = new House();
            House.due("feed", house.feed(" ".repeat(length - text.length()) + text), length <= 2980 ? 2980 : 3000);
            House.due("judge", house.it.judge(length), 0);
            House.due("run", house.it.run(10), 0);
            House.due("out", house.it.out(0, 1), 5);
            house = new House();
            house.feed(" ".repeat(length - text.length()) + text);
            House.due("judge of one less", house.it.judge(length - 1), 1);
            House.due("place", house.it.fault(1), length - 1);
        }
        // As many statements as there is room for.
        StringBuilder all = new StringBuilder("fn main() { let a = 1; ");
        for (int i = 0; i < 396; i++) {
            all.append(i % 2 == 0 ? "a=a*3;" : "print 1;");
        }
        House house = new House();
        House.due("judge of many", house.judge(all.append("}").toString()), 0);
        House.due("places", house.it.count(2), 396);
        House.due("length", all.length() <= 3000 ? 1 : 0, 1);
        House.due("run", house.it.run(50000), 0);
        House.due("STEPS", house.it.about(3), 397);
    }

    /** NONE, doing nothing, if n is below 0 or more than there are; else the first n bytes, and there is no text then. */
    private static void judged() {
        String text = "fn main() { print 1; } fn f() { print q; }";
        House house = new House();
        int fed = house.feed(text);
        House.due("fed", fed, 60);
        for (int n : new int[] {-1, -60, Integer.MIN_VALUE, 61, 62, 3000, 3001, Integer.MAX_VALUE}) {
            House.due("judge of " + n, house.it.judge(n), -1);
            House.due("fault", house.it.fault(0), -1);
            House.due("no program", house.it.count(1), 0);
        }
        House.due("judge of 22", house.it.judge(22), 0);
        for (int n : new int[] {-1, 1, 20, 22, 60, Integer.MAX_VALUE}) {
            House.due("judge of what is gone", house.it.judge(n), -1);
            House.due("fault", house.it.fault(0), 0);
            House.due("the program", house.it.count(1), 1);
        }
        House.due("feed", house.feed(text), 60);
        House.due("judge of 60", house.it.judge(60), 2);
        House.due("place", house.it.fault(1), text.indexOf('q'));
        // Also behind a FAULT there is no text.
        House.due("judge of 1", house.it.judge(1), -1);
        House.due("place", house.it.fault(1), text.indexOf('q'));
        House.due("feed", house.feed(text), 60);
        House.due("judge of 0", house.it.judge(0), 2);
        House.due("place", house.it.fault(1), 0);
        House.due("judge of 1", house.it.judge(1), -1);
        House.due("feed behind", house.it.feed(BLANKS, BLANKS, BLANKS, BLANKS, BLANKS), 20);
        House.due("feed behind", house.feed(text), 80);
        House.due("judge of 42", house.it.judge(42), 0);
        House.due("run", house.it.run(9), 0);
    }

    /** 0: its FAULT (0 without), 1: its place, 2: the other place of FAULTS 3 and 4; NONE if there is none such. */
    private static void faults() {
        int[] places = {0, 12, 12, 18, 7, 0, 30, 47, 36, 26};
        int[] others = {-1, -1, -1, -1, -1, -1, 16, 36, 31, 5};
        House house = new House();
        for (int turn = 0; turn < 2; turn++) {
            for (int i = 0; i < BAD.length; i++) {
                house = i % 5 == 0 ? new House() : house;
                House.due("judge of " + BAD[i], house.judge(BAD[i]), KIND[i]);
                told(house.it, KIND[i], places[i], others[i]);
                // One that is NONE is not the latest.
                house.it.judge(-1);
                house.it.judge(4000);
                told(house.it, KIND[i], places[i], others[i]);
                if (turn == 1) {
                    House.due("judge", house.judge(GOOD), 0);
                    told(house.it, 0, -1, -1);
                }
            }
        }
    }

    private static void told(LoanHouse x, int kind, int place, int other) {
        for (int what : ODD) {
            House.due("fault " + what, x.fault(what), what == 0 ? kind : what == 1 ? place : what == 2 ? other : -1);
        }
    }

    /** How many there are, those that were read too; NONE if there are 200. */
    private static void gives() {
        House house = House.taken("fn main() { let i = 0; while i < 3 { print read; i = i + 1; } }");
        for (int i = 1; i <= 200; i++) {
            House.due("give " + i, house.it.give(i == 1 ? Long.MIN_VALUE : i == 2 ? Long.MAX_VALUE : -i), i);
            if (i % 50 == 0) {
                House.due("run", house.it.run(100), 0);
                House.due("reads", house.it.about(9), 3);
                House.due("first", house.it.out(0, 1), Long.MIN_VALUE);
                House.due("second", house.it.out(1, 1), Long.MAX_VALUE);
                House.due("third", house.it.out(2, 1), -3);
            }
        }
        for (long v : new long[] {0, 1, Long.MIN_VALUE}) {
            House.due("give too many", house.it.give(v), -1);
        }
        // They stay for other programs, and those that have a FAULT take none.
        house.judge("(");
        House.due("judge", house.judge("fn main() { let i = 0; let s = 0; while i < 202 { s = read; i = i + 1; if i > 198 { print s; } } }"), 0);
        House.due("give too many", house.it.give(1), -1);
        House.due("run", house.it.run(50000), 0);
        House.same("the last", house.out(), "-199 -200 0 0");
        House.due("reads", house.it.about(9), 202);
    }

    private static void runs() {
        House house = House.taken(GOOD);
        for (int steps : ODD) {
            boolean right = steps >= 1 && steps <= 50000;
            int answer = house.it.run(steps);
            House.due("run of " + steps, answer >= 0 ? 1 : 0, right ? 1 : 0);
        }
        House.due("the latest", house.it.about(0), 0);
        House.due("run of 50001", house.it.run(50001), -1);
        House.due("run of 50000", house.it.run(50000), 0);
        House.due("run of 1", house.it.run(1), 2);
        House.due("STEPS", house.it.about(3), 1);
        House.due("run of 0", house.it.run(0), -1);
        House.due("STEPS", house.it.about(3), 1);
    }

    /** Each question at the least and the last thing there is, and beyond. */
    private static void asked() {
        House house = House.taken(GOOD);
        LoanHouse x = house.it;
        House.due("run", x.run(100), 0);
        House.same("out", house.out(), "7 7 !2");
        int[] about = {0, -1, -1, 10, 3, 1, 1, 1, 1, 1};
        int[] counts = {2, 2, 9, 2};
        for (int what : ODD) {
            House.due("about " + what, x.about(what), what >= 0 && what < 10 ? about[what] : -1);
            House.due("count " + what, x.count(what), what >= 0 && what < 4 ? counts[what] : -1);
            House.due("size " + what, x.size(what), what == 0 ? 1 : what == 1 ? 2 : -1);
        }
        for (int i : ODD) {
            asked(i);
        }
    }

    private static void asked(int i) {
        House house = House.taken(GOOD);
        LoanHouse x = house.it;
        House.due("run", x.run(100), 0);
        for (int what : ODD) {
            House.due("place " + i + " " + what, x.place(i, what) >= 0 ? 1 : 0, i >= 0 && i < 9 && what >= 0 && what < 5 ? 1 : 0);
            House.due("loan " + i + " " + what, x.loan(i, what) >= 0 ? 1 : 0, i >= 0 && i < 2 && what >= 0 && what < 4 ? 1 : 0);
            House.due("function " + i + " " + what, x.function(i, what) >= 0 ? 1 : 0, i >= 0 && i < 2 && what >= 0 && what < 4 ? 1 : 0);
            House.due("force " + i + " " + what, x.force(i, what) >= 0 ? 1 : 0, i >= 0 && i < 2 && what >= 0 && what < 9 ? 1 : 0);
            House.due("out " + i + " " + what, x.out(i, what) != 0 ? 1 : 0, what == 1 && i >= 0 && i < 3 || what == 0 && i == 2 ? 1 : 0);
        }
        // A fn main without variables, a program without records, places and LOANS.
        x = House.taken("fn main() { }").it;
        House.due("run", x.run(1), 0);
        House.due("size", x.size(i), -1);
        House.due("count", x.count(i), i == 1 ? 1 : i == 0 || i == 2 || i == 3 ? 0 : -1);
        House.due("about", x.about(i), i == 0 || i >= 3 && i <= 9 ? 0 : -1);
        for (int what : ODD) {
            House.due("place", x.place(i, what), -1);
            House.due("loan", x.loan(i, what), -1);
            House.due("force", x.force(i, what), -1);
            House.due("out", x.out(i, what), 0);
            House.due("function", x.function(i, what), i == 0 && what >= 0 && what < 4 ? 0 : -1);
        }
    }

    /** A program that was judged is not run yet, also when the one ahead was. */
    private static void notRun() {
        House house = House.taken(GOOD);
        for (int turn = 0; turn < 4; turn++) {
            for (int i : ODD) {
                House.due("about " + i, house.it.about(i), -1);
                House.due("out " + i, house.it.out(i, 1), 0);
                House.due("out " + i, house.it.out(0, i), 0);
            }
            House.due("strays", house.it.strays(), 0);
            House.due("twices", house.it.twices(), 0);
            House.due("lefts", house.it.lefts(), 0);
            House.due("clashes", house.it.clashes(), 0);
            House.due("run of 0", house.it.run(0), -1);
            House.due("about", house.it.about(0), -1);
            House.due("run", house.it.run(turn == 1 ? 3 : 100), turn == 1 ? 2 : 0);
            House.due("about", house.it.about(0), turn == 1 ? 2 : 0);
            House.due("judge", house.judge(turn == 2 ? "fn main() { print 1; }" : GOOD), 0);
        }
    }

    private static long[] all(LoanHouse x) {
        long[] all = new long[200];
        int n = 0;
        for (int i = -1; i < 11; i++) {
            all[n++] = x.about(i);
            all[n++] = x.place(i, 0);
            all[n++] = x.place(i, i % 5);
            all[n++] = x.force(0, i);
            all[n++] = x.force(1, i);
        }
        for (int i = 0; i < 4; i++) {
            all[n++] = x.count(i);
            all[n++] = x.size(i);
            for (int what = 0; what < 4; what++) {
                all[n++] = x.loan(i, what);
                all[n++] = x.function(i, what);
                all[n++] = x.out(i, what);
            }
        }
        all[n++] = x.strays();
        all[n++] = x.twices();
        all[n++] = x.lefts();
        all[n++] = x.clashes();
        return all;
    }

    /** Its FAULT, and all stays as it was but for fault(): of a program that was not run, ran, failed or was cut. */
    private static void stays() {
        String failing = GOOD.replace("print r^[0];", "print r^[1];").replace("a == 7", "a == 7 or true");
        for (String program : new String[] {GOOD, failing}) {
            for (int state = 0; state < 3; state++) {
                for (int i = 0; i < BAD.length; i++) {
                    stays(program, state, i);
                }
            }
        }
        // Of a FAULT in a text that has much more of all than the program.
        StringBuilder much = new StringBuilder();
        for (int i = 0; i < 20; i++) {
            much.append("record R").append(i).append(" { a: int, b: bool } fn f").append(i).append("(a: R").append(i).append(") { let b = a; let c = & b; print c^.a; } ");
        }
        for (String end : new String[] {"fn main() { let a: int; print a; }", "fn main() { let a = 1; let b = & a; a = 2; print b^; }", "fn main() { print q; }", "fn"}) {
            House house = House.taken(GOOD);
            house.it.run(100);
            long[] ahead = all(house.it);
            House.due("judge", house.judge(much + end) > 0 ? 1 : 0, 1);
            House.due("all stays", Arrays.equals(all(house.it), ahead) ? 1 : 0, 1);
        }
    }

    private static void stays(String program, int state, int bad) {
        House house = House.taken(program);
        if (state > 0) {
            house.it.run(state == 1 ? 50000 : 6);
        }
        long[] ahead = all(house.it);
        House.due("judge of " + BAD[bad], house.judge(BAD[bad]), KIND[bad]);
        House.due("all stays behind " + BAD[bad], Arrays.equals(all(house.it), ahead) ? 1 : 0, 1);
        // And it runs as it did.
        if (state > 0) {
            house.it.run(state == 1 ? 50000 : 6);
            House.due("it runs again", Arrays.equals(all(house.it), ahead) ? 1 : 0, 1);
        }
    }

    /** Also behind more programs than one; and what a text with a FAULT was like says nothing of the next text. */
    private static void staysLater() {
        for (int goods = 2; goods <= 5; goods++) {
            House house = House.taken("fn main() { print 0; }");
            for (int i = 2; i < goods; i++) {
                House.due("judge", house.judge("record R { a: int } fn main() { let a = new R { a: " + i + " }; print a.a; }"), 0);
                House.due("run", house.it.run(10), 0);
            }
            House.due("judge", house.judge(GOOD), 0);
            House.due("run", house.it.run(100), 0);
            long[] ahead = all(house.it);
            for (int i = 3; i < 6; i += 2) {
                House.due("judge", house.judge("record R { a: int } fn f(a: int) { let b = & a; } fn g(a: R) { let c = a; let d = & c.a; print d^ + " + i + "; } " + BAD[i] + " fn main("), 1);
                House.due("judge", house.judge("record R { a: int } fn f(a: int) { let b = & a; print q; } fn g(a: R) { let c = a; let d = & c.a; print d^ + " + i + "; }"), 2);
                House.due("judge", house.judge("record R { a: int } fn f(a: int) { let b = & a; } fn g(a: R) { let c = a; let d = & c.a; let e: int; print e; } fn main() { }"), 3);
            }
            House.due("all stays behind " + goods, Arrays.equals(all(house.it), ahead) ? 1 : 0, 1);
        }
        // What was open at a FAULT is open no more: sixteen can be again.
        House house = new House();
        for (int i = 0; i < 3; i++) {
            House.due("judge", house.judge("fn main() { print " + "(".repeat(15) + "]"), 1);
            House.due("place", house.it.fault(1), 33);
            House.due("judge", house.judge("fn main() { print " + "(".repeat(16) + "1"), 1);
            House.due("place", house.it.fault(1), 33);
            House.due("judge", house.judge("fn main() { print " + "(".repeat(15) + "1" + ")".repeat(15) + "; }"), 0);
        }
        // In each text what is used behind a place, and what is held there, is the text's own.
        house = new House();
        for (int i = 0; i < 3; i++) {
            String text = "fn main() { let a = 1; let r = & a; while read == 1 { # } }";
            House.due("judge", house.judge(text.replace("#", "print r^;")), 0);
            House.due("force", house.it.force(0, 1), 1);
            House.due("judge", house.judge(text.replace("#", "a = 2;")), 0);
            House.due("force", house.it.force(0, 1), 0);
            House.due("judge", house.judge(text.replace("#", "a = 2; print r^;")), 4);
            House.due("judge", house.judge(text.replace("#", "print a;")), 0);
            House.due("force", house.it.force(0, 1), 0);
        }
        house = new House();
        for (int i = 0; i < 3; i++) {
            House.due("judge", house.judge("fn main() { let a = 1; let r = & a; while read == 1 { print r^; } let b: int; print b; }"), 3);
            House.due("judge", house.judge("fn main() { let a = 1; let b = & a; while read == 1 { a = 2; b = & a; } print b^; }"), 0);
            House.due("judge", house.judge("fn main() { let a: int; let b = 1; while read == 1 { a = b; } b = 2; print b; }"), 0);
            House.due("splits", house.it.function(0, 2), 1);
        }
    }

    /** Nothing of the texts ahead is left in what a text is: each is judged behind two others, and behind two more of its like. */
    private static void nothingLeft() {
        // What has an else, a result, an of, parts, and then has none.
        after("fn main() { if false { } else { print 1; } print 2; }", "fn main() { if false { } if true { print 3; } print 2; }", 0, "3 2");
        after("fn f() -> int { return 1; } fn main() { let a = 7; print a + f(); }",
            "fn f() { } fn main() { let a = 7; let b = 8; f(); print a; print b; f(); print a; print b; }", 0, "7 8 7 8");
        after("fn f(a: & int) -> & int of a { return a; } fn main() { let a = 1; let r = f(& a); print r^; }",
            "fn f(a: & int) -> & int { fail; } fn main() { let a = 1; let r = f(& a); a = 2; print r^; }", 1, "");
        after("choice C { A(int, int) } fn main() { let c = new C.A(1, 2); }", "choice C { A } fn main() { match new C.A { A => { print 3; } } }", 0, "3");
        after("record R told { a: int } fn main() { let a = new R { a: 1 }; }", "record R { a: int } fn main() { let a = new R { a: 1 }; print a.a; }", 0, "1");
        after("record R { a: int, b: int } fn main() { }", "record R { } fn main() { let a = new R { }; let b = a; print 4; }", 0, "4");
        after("fn f(a: int, b: int) { } fn main() { f(1, 2); }", "fn f() { print 5; } fn main() { f(); }", 0, "5");
        after("fn main() { while true { break; } }", "fn main() { if true { print 6; } }", 0, "6");
        // What was lent of a variable, and where a way came to.
        after("fn main() { let a = 1; let r = &! a; let s = & r^; print s^; }",
            "fn main() { let a = 1; let r = & a; let s = & a; r = & a; print s^ + r^; }", 0, "2");
        House house = new House();
        for (int i = 0; i < 3; i++) {
            House.due("judge", house.judge("fn main() { let a = 1; let r = & a; print a; print a; print r^; }"), 0);
            House.due("way", house.it.place(1, 4), 1);
            House.due("LOANS", house.it.place(1, 3), 1);
            House.due("judge", house.judge("fn main() { let a = 1; let r = & a; return; print a; print r^; print r^; }"), 0);
            for (int k = 1; k < 4; k++) {
                House.due("way", house.it.place(k, 4), 0);
                House.due("LOANS", house.it.place(k, 3), 0);
            }
            House.due("judge", house.judge("fn main() { let a = 1; let r = &! a; let s = & r^; print s^; }"), 0);
            House.due("judge", house.judge("fn main() { let a = 1; let r = &! a; let s = & r^; print s^; }"), 0);
            House.due("judge", house.judge("fn main() { let a = 1; let r = & a; let s = & a; r = & a; print a; print s^ + r^; }"), 0);
            House.due("LOANS", house.it.place(4, 3), 2);
        }
    }

    private static void after(String ahead, String text, int ended, String out) {
        House house = new House();
        for (int i = 0; i < 3; i++) {
            House.due("judge of " + ahead, house.judge(ahead), 0);
            House.due("judge of " + ahead, house.judge(ahead), 0);
            House.due("judge of " + text, house.judge(text), 0);
            house.runsAgain(text, ended, out);
            House.due("judge of " + text, house.judge(text), 0);
            house.runsAgain(text, ended, out);
        }
    }

    private static String each(String part, int from, int to) {
        StringBuilder all = new StringBuilder();
        for (int i = from; i < to; i++) {
            all.append(part.replace("#", "" + i));
        }
        return all.toString();
    }

    /** Text after text in one object, each with much of something: the last one is judged and run as the first one. */
    private static void textAfterText() {
        // Variables, variants' types, variants.
        String arms = each("V#(a,b,c,d,e,f)=>{}", 0, 6);
        afterText("choice C{" + each("V#(int,int,int,int,int,int),", 0, 5) + "V5(int,int,int,int,int,int)}" + each("fn f#(c:C){match c{" + arms + "}}", 0, 9)
            + "fn main(){let k=new C.V5(1,2,3,4,5,6);f0(k);print 36;$}");
        String six = "(E,E,E,E,E,E)";
        afterText("record E{}" + each("choice C#{a" + six + ",b" + six + ",c" + six + ",d" + six + ",e" + six + ",f" + six + ",g" + six + ",h" + six + ",i" + six + ",j(int)}",
            0, 9) + "fn main(){match new C8.j(30){j(a)=>{print a+6;}_=>{}}$}");
        afterText(each("choice C#{a(int),b,c,d,e,f,g,h,i,j}", 0, 23)
            + "record R{a:int,b:int}fn main(){let r=new R{b:5,a:30};match new C22.a(r.b+1){a(k)=>{print k+r.a;}_=>{}}$}");
        // LEAVES, steps of places, matches, what new records are made of, whiles and ifs.
        afterText("record R{a:int,b:int}record S{p:R}fn f(){" + each("let a#:S;", 0, 29) + "}fn g(){" + each("let a#:S;", 0, 29) + "}fn h(){" + each("let a#:S;", 0, 29)
            + "}fn main(){let p=new S{p:new R{b:6,a:30}};print p.p.a+p.p.b;$}");
        afterText("record W{a:int,b:int,c:int,d:int,e:int,f:int,g:int,h:int}" + each("fn f#(){" + each("let a:W;", 0, 7) + "}", 0, 15)
            + "fn main(){let w:W;w.a=30;w.h=6;print w.a+w.h;$}");
        afterText("fn main(){let b=" + "box(".repeat(15) + "0" + ")".repeat(15) + ";" + each("b" + "^".repeat(15) + "=#;", 0, 80) + "print b" + "^".repeat(15) + "-43;$}");
        afterText("choice C{V,W(int)}fn main(){let k=new C.W(36);let r=&k;" + each("match r{_=>{}}", 0, 100) + "match r{V=>{}W(a)=>{print a^;}}$}");
        String deep = "p" + ".p".repeat(14) + ".a";
        afterText("record R0{a:int}" + nested() + "fn main(){let p=m();" + each(deep + "=#;", 0, 36) + "print " + deep + "+1;$}");
        afterText("choice C{V,W(int)}fn main(){" + each("match new C.V{_=>{}}", 0, 90) + "match new C.W(36){V=>{}W(a)=>{print a;}}$}");
        afterText("record R{a:int,b:int,c:int}fn t(r:R)->int{return r.c;}fn main(){print 0" + each("+t(new R{c:1,b:2,a:3})", 0, 36) + ";$}");
        afterText("fn main(){let a=0;" + each("while a<#{if a>=0{a=a+1;}}", 0, 37) + "print a;$}");
        afterText("fn r(a:&int){}fn main(){let a=36;" + each("r(&a);", 0, 48) + "let b=&a;print b^;$}");
    }

    /** Records R1 to R14, each with the one ahead in it, and a fn that makes the last. */
    private static String nested() {
        StringBuilder all = new StringBuilder();
        for (int i = 1; i <= 14; i++) {
            all.append("record R").append(i).append("{p:R").append(i - 1).append("}");
        }
        return all + "fn k()->R7{return new R7{p:new R6{p:new R5{p:new R4{p:new R3{p:new R2{p:new R1{p:new R0{a:0}}}}}}}};}"
            + "fn m()->R14{return new R14{p:new R13{p:new R12{p:new R11{p:new R10{p:new R9{p:new R8{p:k()}}}}}}};}";
    }

    /** The first and the last are taken, those between have a FAULT 3 or 4 at the $. */
    private static void afterText(String text) {
        String[] ends = {"let z:int;print z;", "let y=1;let z=&y;y=2;print z^;"};
        House house = new House();
        int calls = (text.length() + 60) / 20 + 3;
        int turns = 500 / calls;
        for (int turn = 0; turn < turns; turn++) {
            boolean good = turn == 0 || turn == turns - 1;
            House.due("judge of turn " + turn + " of " + text, house.judge(text.replace("$", good ? "" : ends[turn % 2])), good ? 0 : 3 + turn % 2);
        }
        House.due("run", house.it.run(5000), 0);
        House.due("out of " + text, house.it.out(0, 1), 36);
        House.due("entries", house.it.about(4), 1);
        House.due("lefts", house.it.lefts() + house.it.strays() + house.it.twices(), 0);
    }

    /** As many tokens as there are bytes: whatever the sign, the FAULT is told and nothing else happens. */
    private static void tokens() {
        for (int sign = 0; sign < 256; sign++) {
            int four = sign << 24 | sign << 16 | sign << 8 | sign;
            LoanHouse x = new LoanHouse();
            for (int i = 0; i < 150; i++) {
                x.feed(four, four, four, four, four);
            }
            boolean blank = sign == 9 || sign == 10 || sign == 13 || sign == 32 || sign == '#';
            House.due("judge of 3000 of byte " + sign, x.judge(3000), blank ? 2 : 1);
            House.due("place of byte " + sign, x.fault(1), blank ? 3000 : 0);
        }
        for (String body : new String[] {"a^", "a.b", "a[0]", "a+", "a=", "f(", "f(),", "{", "-", "not ", "let a;", "let a:int;", "match a{", "A=>{", "A(b,", "1,",
            "row int[", "new R{", "new R{a:", "& ", "&!", "a;", "f();", "if a{", "if a{}", "else ", "while a{}", "fail;", "return;", "_", "1+", "1<", "a and "}) {
            for (String head : new String[] {"", "fn main(){", "fn main(){print ", "fn main(){a", "fn main(){let a=", "record R{", "record R{a:box ", "choice C{", "choice C{A(", "fn f("}) {
                String text = head + body.repeat(3000 / body.length());
                House house = new House();
                int kind = house.judge(text.substring(0, Math.min(text.length(), 3000)));
                House.due("FAULT of many " + head + body, kind == 1 || kind == 2 ? 1 : 0, 1);
            }
        }
    }

    /** The program runs anew: nothing is left of the run ahead. */
    private static void anew() {
        House house = House.taken("record T told { n: int } fn main() { let a = new T { n: 1 }; let b = box(row int [read]); print 5; if b^[0] == 1 { fail; } "
            + "while b^[0] == 2 { } }");
        int[] ends = {0, 1, 2, 0};
        int[] reads = {0, 1, 2, 0};
        for (int turn = 0; turn < 4; turn++) {
            House next = House.taken("record T told { n: int } fn main() { let a = new T { n: 1 }; let b = box(row int [read]); print 5; if b^[0] == 1 { fail; } "
                + "while b^[0] == 2 { } }");
            next.it.give(reads[turn]);
            for (int again = 0; again < 3; again++) {
                House.due("run", next.it.run(50000), ends[turn]);
                House.due("out", next.it.about(4), ends[turn] == 2 ? 1 : 2);
                House.due("first", next.it.out(0, 1), 5);
                House.due("made", next.it.about(5), 1);
                House.due("dropped", next.it.about(6), ends[turn] == 2 ? 0 : 1);
                House.due("boxes", next.it.about(7), 1);
                House.due("rows", next.it.about(8), 1);
                House.due("reads", next.it.about(9), 1);
                House.due("STEPS", next.it.about(3), ends[turn] == 2 ? 50000 : ends[turn] == 1 ? 5 : 6);
                House.due("lefts", next.it.lefts(), 0);
            }
        }
        House.due("run", house.it.run(3), 2);
        House.due("out", house.it.about(4), 1);
        House.due("run", house.it.run(2), 2);
        House.due("out", house.it.about(4), 0);
        House.due("no out", house.it.out(0, 1), 0);
        House.due("run", house.it.run(1), 2);
        House.due("boxes", house.it.about(7), 0);
        House.due("rows", house.it.about(8), 0);
        House.due("reads", house.it.about(9), 0);
    }
}
