import java.util.Random;

/**
 * Promises that meet one another in one object: a text behind a text, a run behind a run, a judge() with a FAULT between two
 * runs, ints given between runs; then calls in random turns, held against new objects that were asked for the same alone.
 */
public final class MeetTest {
    private static final String READS = "record T told { n: int } fn main() { let t = new T { n: read }; let i = 0; while i < 2 { print read; i = i + 1; } print t.n; }";
    private static final String LENDS = "record R { a: int, b: int } choice C { A, B(R) } fn f(a: &! int, b: & int) { a^ = a^ + b^; } "
        + "fn main() { let r = new R { a: 1, b: 2 }; f(&! r.a, & r.b); let c = new C.B(r); match & c { A => { } B(k) => { print k^.a; } } }";
    private static final String HEAP = "record T told { n: int } fn main() { let b = row box T [box(new T { n: 1 }), box(new T { n: 2 })]; let k = read; "
        + "let c = pop(b); c^.n = c^.n / k; print c^.n; if k == 2 { fail; } while k == 3 { } }";
    private static final String[] GOOD = {READS, LENDS, HEAP, "fn main() { }", "fn main() { while true { print read; } }",
        "fn f(n: int) -> int { if n == 0 { return read; } return f(n - 1) + 1; } fn main() { print f(3); print f(45); }"};
    private static final String[] BAD = {"fn main() { print 1 }", "fn main() { \u0001 }", "fn main() { print a; }", "fn f() { }",
        "record R { a: R } fn main() { }", "fn main() { let a: int; print a; }", "fn main() { let b = box(1); let c = b; print b^; }",
        "fn main() { let a = 1; let r = &! a; print a; r^ = 2; }", "fn f(a: & int) -> & int { return a; } fn main() { }"};
    private static final int[] BAD_KIND = {1, 1, 2, 2, 2, 3, 3, 4, 4};
    private static final int MOST_CALLS = 500;

    private final House house = new House();
    private final Random random;
    private int calls;
    // What the object must know: its text, program, ints, and the latest run by its steps and how many ints there were.
    private String fed = "";
    private String program;
    private final long[] given = new long[200];
    private int givenTotal;
    private int ranSteps;
    private int ranGiven;
    private int kind = -1;
    private int place = -1;
    private int other = -1;
    // A new object that was asked for just this program and this run.
    private LoanHouse alone = new LoanHouse();

    private MeetTest(int seed) {
        random = new Random(seed);
    }

    public static void main(String[] args) {
        textBehindText();
        runBehindRun();
        faultBetweenRuns();
        givenBetweenRuns();
        fedBetween();
        for (int seed = 0; seed < 120; seed++) {
            new MeetTest(seed).turns();
        }
        House.end("MeetTest");
    }

    /** The later program is the program: all that was asked of the one ahead is told of it no more. */
    private static void textBehindText() {
        House house = new House();
        House.due("judge", house.judge(LENDS), 0);
        sizes(house.it, 2, 2, 8, 3);
        House.due("size of C", house.it.size(1), 3);
        House.due("run", house.it.run(100), 0);
        House.same("out", house.out(), "3");
        House.due("judge", house.judge(READS), 0);
        sizes(house.it, 1, 1, 4, 0);
        House.due("size of T", house.it.size(0), 1);
        House.due("no size", house.it.size(1), -1);
        House.due("no LOAN", house.it.loan(0, 0), -1);
        House.due("no fn", house.it.function(1, 0), -1);
        House.due("no place", house.it.place(4, 0), -1);
        House.due("not run yet", house.it.about(0), -1);
        House.due("not run yet", house.it.out(0, 1), 0);
        House.due("run", house.it.run(100), 0);
        House.same("out", house.out(), "0 0 0 !0");
        House.due("judge", house.judge(LENDS), 0);
        sizes(house.it, 2, 2, 8, 3);
        House.due("not run yet", house.it.about(4), -1);
        House.due("run", house.it.run(100), 0);
        House.same("out", house.out(), "3");
        House.due("told", house.it.about(6), 0);
    }

    private static void sizes(LoanHouse x, int decls, int functions, int places, int loans) {
        House.due("records and choices", x.count(0), decls);
        House.due("functions", x.count(1), functions);
        House.due("places", x.count(2), places);
        House.due("LOANS", x.count(3), loans);
    }

    /** Each run begins anew: cut, failed or run through, the next one tells of itself alone. */
    private static void runBehindRun() {
        House house = House.taken(HEAP);
        for (int turn = 0; turn < 3; turn++) {
            // Ahead of the first statement, behind it, and as far as the division by 0.
            ran(house, 1, 2, "", new int[] {2, -1, -1, 1, 0, 2, 0, 2, 1, 0});
            ran(house, 2, 2, "", new int[] {2, -1, -1, 2, 0, 2, 0, 2, 1, 1});
            ran(house, 50000, 1, "!2 !1", new int[] {1, HEAP.indexOf('/'), 2, 4, 2, 2, 2, 2, 1, 1});
        }
        House.due("give", house.it.give(1), 1);
        for (int turn = 0; turn < 3; turn++) {
            ran(house, 50000, 0, "2 !2 !1", new int[] {0, -1, -1, 8, 3, 2, 2, 2, 1, 1});
            ran(house, 7, 2, "2", new int[] {2, -1, -1, 7, 1, 2, 0, 2, 1, 1});
            House.due("no run", house.it.run(0), -1);
            House.due("no run", house.it.run(50001), -1);
            House.due("the latest run", house.it.about(3), 7);
        }
    }

    private static void ran(House house, int steps, int ended, String out, int[] about) {
        House.due("run of " + steps, house.it.run(steps), ended);
        House.same("out of " + steps, house.out(), out);
        for (int what = 0; what < 10; what++) {
            House.due("about " + what + " of " + steps, house.it.about(what), about[what]);
        }
        House.due("no entry behind", house.it.out(about[4], 0) + house.it.out(about[4], 1), 0);
        House.due("strays", house.it.strays(), 0);
        House.due("twices", house.it.twices(), 0);
        House.due("lefts", house.it.lefts(), 0);
        House.due("clashes", house.it.clashes(), 0);
    }

    /** A judge() with a FAULT between two runs: only fault() tells of it. */
    private static void faultBetweenRuns() {
        for (int i = 0; i < BAD.length; i++) {
            House house = House.taken(HEAP);
            house.it.give(2);
            int[] about = {1, HEAP.indexOf("fail"), 1, 7, 3, 2, 2, 2, 1, 1};
            ran(house, 100, 1, "1 !1 !1", about);
            House.due("judge of " + BAD[i], house.judge(BAD[i]), BAD_KIND[i]);
            House.due("fault", house.it.fault(0), BAD_KIND[i]);
            House.same("out stays", house.out(), "1 !1 !1");
            for (int what = 0; what < 10; what++) {
                House.due("about " + what + " stays", house.it.about(what), about[what]);
            }
            sizes(house.it, 1, 1, 7, 0);
            ran(house, 100, 1, "1 !1 !1", about);
            House.due("fault is still the latest judge's", house.it.fault(0), BAD_KIND[i]);
            House.due("and ints are still there", house.it.give(5), 2);
            House.due("a refused judge", house.it.judge(1), -1);
            House.due("fault is still the latest judge's", house.it.fault(0), BAD_KIND[i]);
        }
    }

    /** Ints that are given behind a run are there in the next one; each run reads from the first on. */
    private static void givenBetweenRuns() {
        House house = House.taken(READS);
        house.runsAgain(READS, 0, "0 0 0 !0");
        House.due("reads", house.it.about(9), 3);
        House.due("give", house.it.give(-4), 1);
        House.same("the latest run stays", house.out(), "0 0 0 !0");
        House.due("reads", house.it.about(9), 3);
        house.runsAgain(READS, 0, "0 0 -4 !-4");
        House.due("give", house.it.give(Long.MAX_VALUE), 2);
        house.runsAgain(READS, 0, Long.MAX_VALUE + " 0 -4 !-4");
        House.due("give", house.it.give(6), 3);
        House.due("give", house.it.give(7), 4);
        house.runsAgain(READS, 0, Long.MAX_VALUE + " 6 -4 !-4");
        House.due("run that reads but one", house.it.run(1), 2);
        House.due("reads", house.it.about(9), 1);
        house.runsAgain(READS, 0, Long.MAX_VALUE + " 6 -4 !-4");
        House.due("another program", house.judge("fn main() { print read; print read; print read; print read; print read; }"), 0);
        House.due("give", house.it.give(8), 5);
        house.runsAgain("five", 0, "-4 " + Long.MAX_VALUE + " 6 7 8");
        House.due("reads", house.it.about(9), 5);
    }

    /** Bytes that are fed stay till a judge() takes them, whatever else is asked in between. */
    private static void fedBetween() {
        House house = House.taken("fn main() { print 1; }");
        String text = "fn main() { print 22; } ";
        for (int at = 0; at < text.length(); at += 20) {
            House.due("feed", house.feed(text.substring(at, Math.min(at + 20, text.length()))), at + 20);
            house.runsAgain("1", 0, "1");
            House.due("give", house.it.give(at) > 0 ? 1 : 0, 1);
            House.due("a refused judge", house.it.judge(at + 21), -1);
            House.due("a refused judge", house.it.judge(-1), -1);
            House.due("fault", house.it.fault(0), 0);
        }
        House.due("judge", house.it.judge(text.length()), 0);
        house.runsAgain("22", 0, "22");
    }

    // ---- random turns

    private void turns() {
        for (int turn = 0; turn < 2000 && calls < MOST_CALLS - 160; turn++) {
            switch (random.nextInt(8)) {
                case 0:
                    feedAndJudge(GOOD[random.nextInt(GOOD.length)]);
                    break;
                case 1:
                    feedAndJudge(BAD[random.nextInt(BAD.length)]);
                    break;
                case 2:
                    judge(random.nextBoolean() ? -1 - random.nextInt(3) : fed.length() + 1 + random.nextInt(50));
                    break;
                case 3:
                    give(random.nextInt(4));
                    break;
                case 4:
                    run(random.nextInt(5) == 0 ? -random.nextInt(2) : 50001);
                    break;
                case 5:
                    run(1 + random.nextInt(random.nextBoolean() ? 12 : 300));
                    break;
                default:
                    ask();
                    break;
            }
        }
    }

    /** Behind what was fed already, if there is something, and then the first bytes are mostly no text. */
    private void feedAndJudge(String text) {
        if (fed.length() + text.length() > 2900) {
            judge(0);
        }
        House.due("feed", house.feed(text), fed.length() + (text.length() + 19) / 20 * 20);
        calls += (text.length() + 19) / 20;
        fed = fed + text + " ".repeat((20 - text.length() % 20) % 20);
        if (random.nextInt(8) > 0) {
            judge(random.nextInt(4) == 0 ? random.nextInt(fed.length() + 1) : fed.length());
        }
    }

    private void judge(int n) {
        calls++;
        int answer = house.it.judge(n);
        if (n < 0 || n > fed.length()) {
            House.due("judge of " + n, answer, -1);
        } else {
            House one = new House();
            String text = fed.substring(0, n);
            fed = "";
            kind = one.judge(text);
            place = one.it.fault(1);
            other = one.it.fault(2);
            House.due("judge of " + text, answer, kind);
            if (kind == 0) {
                program = text;
                ranSteps = 0;
                alone = one.it;
            }
        }
        tellFault();
    }

    private void tellFault() {
        calls += 3;
        House.due("fault(0)", house.it.fault(0), kind);
        House.due("fault(1)", house.it.fault(1), place);
        House.due("fault(2)", house.it.fault(2), other);
    }

    private void give(long v) {
        calls++;
        given[givenTotal] = v;
        givenTotal++;
        House.due("give", house.it.give(v), givenTotal);
    }

    private void run(int steps) {
        calls++;
        int answer = house.it.run(steps);
        if (program == null || steps < 1 || steps > 50000) {
            House.due("run of " + steps, answer, -1);
            return;
        }
        ranSteps = steps;
        ranGiven = givenTotal;
        House one = new House();
        one.judge(program);
        for (int i = 0; i < ranGiven; i++) {
            one.it.give(given[i]);
        }
        House.due("run of " + steps + " of " + program, answer, one.it.run(steps));
        alone = one.it;
    }

    /** Some of what can be asked: the new object, asked for the same alone, says what is due. */
    private void ask() {
        LoanHouse x = house.it;
        int i = random.nextInt(12) - 1;
        int what = random.nextInt(12) - 1;
        String of = i + " " + what + " of " + program + " with " + ranGiven + " in " + ranSteps;
        calls += 12;
        House.due("about " + of, x.about(what), alone.about(what));
        House.due("out " + of, x.out(i, what), alone.out(i, what));
        House.due("out " + of, x.out(i, 1), alone.out(i, 1));
        House.due("count " + of, x.count(what), alone.count(what));
        House.due("place " + of, x.place(i, what % 5), alone.place(i, what % 5));
        House.due("loan " + of, x.loan(i % 4, what % 5), alone.loan(i % 4, what % 5));
        House.due("force " + of, x.force(what % 4, i), alone.force(what % 4, i));
        House.due("function " + of, x.function(i % 3, what % 5), alone.function(i % 3, what % 5));
        House.due("size " + of, x.size(i % 3), alone.size(i % 3));
        House.due("lefts " + of, x.lefts(), 0);
        House.due("strays " + of, x.strays() + x.twices() + x.clashes(), 0);
    }
}
