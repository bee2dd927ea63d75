/** Promises 1 to 14 as calls: what a new object answers, wrong arguments, and what stays when a call is refused. */
public final class CallsTest {
    private static final String GOOD = "record T told { n: int } choice C { A, B(T) } fn f(a: &! int) { a^ = 1; } "
        + "fn main() { let a = read; f(&! a); print a; let t = new T { n: 2 }; }";

    public static void main(String[] args) {
        fresh();
        feed();
        judge();
        faults();
        stays();
        programs();
        counted();
        House.end("CallsTest");
    }

    private static void fresh() {
        House.due("NONE", LoanHouse.NONE, -1);
        LoanHouse x = new LoanHouse();
        for (int what = -1; what <= 10; what++) {
            House.due("fault " + what, x.fault(what), -1);
            House.due("about " + what, x.about(what), -1);
            House.due("out " + what, x.out(0, what), 0);
            House.due("count " + what, x.count(what), what < 0 || what > 3 ? -1 : 0);
            House.due("place " + what, x.place(0, what), -1);
            House.due("loan " + what, x.loan(0, what), -1);
            House.due("function " + what, x.function(0, what), -1);
            House.due("size " + what, x.size(what), -1);
        }
        House.due("run", x.run(10), -1);
        House.due("force", x.force(0, 0), -1);
        House.due("strays", x.strays(), 0);
        House.due("twices", x.twices(), 0);
        House.due("lefts", x.lefts(), 0);
        House.due("clashes", x.clashes(), 0);
        House.due("judge", x.judge(1), -1);
        House.due("judge", x.judge(-1), -1);
        House.due("fault", x.fault(0), -1);
        House.due("judge of nothing", x.judge(0), 2);
        House.due("fault", x.fault(1), 0);
    }

    private static void feed() {
        LoanHouse x = new LoanHouse();
        for (int i = 1; i <= 150; i++) {
            House.due("feed", x.feed(0x20202020, 0x20202020, 0x20202020, 0x20202020, 0x20202020), 20 * i);
        }
        House.due("feed too much", x.feed(0, 0, 0, 0, 0), -1);
        House.due("judge too much", x.judge(3001), -1);
        House.due("judge", x.judge(3000), 2);
        House.due("fault", x.fault(1), 3000);
        House.due("feed", x.feed(0x666e206d, 0x61696e28, 0x297b7d20, 0xff000080, 0x20202020), 20);
        House.due("judge of a part", x.judge(11), 0);
        House.due("feed anew", x.feed(0x666e206d, 0x61696e28, 0x297b7d20, 0xff000080, 0x20202020), 20);
        House.due("judge of all", x.judge(20), 1);
        House.due("fault", x.fault(1), 12);
    }

    private static void judge() {
        House house = new House();
        House.due("feed", house.feed("fn main() { } fn main"), 40);
        House.due("judge more than there is", house.it.judge(41), -1);
        House.due("judge below 0", house.it.judge(-1), -1);
        House.due("fault of none", house.it.fault(0), -1);
        House.due("judge", house.it.judge(13), 0);
        House.due("fault", house.it.fault(0), 0);
        House.due("judge of what is gone", house.it.judge(1), -1);
        House.due("fault", house.it.fault(0), 0);
    }

    private static void faults() {
        House house = new House();
        House.due("judge", house.judge("fn main( { }"), 1);
        check(house.it, 1, 9, -1);
        House.due("judge", house.judge("fn main() { print a; }"), 2);
        check(house.it, 2, 18, -1);
        House.due("judge", house.judge("fn main() { let a: int; print a; }"), 3);
        check(house.it, 3, 30, 16);
        House.due("judge", house.judge("fn main() { let a = 1; let b = & a; a = 2; print b^; }"), 4);
        check(house.it, 4, 36, 31);
        House.due("judge", house.judge("fn main() { }"), 0);
        check(house.it, 0, -1, -1);
        House.due("judge", house.judge("fn main() { let a: int; print a; }"), 3);
        House.due("judge", house.judge("fn"), 1);
        check(house.it, 1, 2, -1);
        House.due("fault of no kind", house.it.fault(3), -1);
        House.due("fault of no kind", house.it.fault(-1), -1);
    }

    private static void check(LoanHouse x, int kind, int place, int other) {
        House.due("fault(0)", x.fault(0), kind);
        House.due("fault(1)", x.fault(1), place);
        House.due("fault(2)", x.fault(2), other);
    }

    /** A FAULT leaves the program, and what its run told, as they were. */
    private static void stays() {
        House house = House.taken(GOOD);
        house.it.give(4);
        house.runsAgain(GOOD, 0, "1 !2");
        for (String bad : new String[] {"(", "fn main() { print a; }", "fn main() { let a: int; print a; }",
            "fn main() { let a = 1; let b = & a; a = 2; print b^; }", "record R { a: int } fn g() { } fn h() { } fn main() { @ }"}) {
            House.due("bad", house.judge(bad) > 0 ? 1 : 0, 1);
            House.same("out", house.out(), "1 !2");
            House.due("about", house.it.about(3), 5);
            House.due("about", house.it.about(5), 1);
            House.due("count 0", house.it.count(0), 2);
            House.due("count 1", house.it.count(1), 2);
            House.due("count 2", house.it.count(2), 3);
            House.due("count 3", house.it.count(3), 1);
            House.due("size", house.it.size(1), 2);
            House.due("place", house.it.place(0, 0), GOOD.indexOf("a^"));
            House.due("loan", house.it.loan(0, 0), GOOD.indexOf("&! a"));
            house.runsAgain(GOOD, 0, "1 !2");
        }
        House.due("judge of too much", house.it.judge(3000), -1);
        House.same("out", house.out(), "1 !2");
    }

    private static void programs() {
        House house = House.taken(GOOD);
        house.runsAgain(GOOD, 0, "1 !2");
        for (int i = 0; i < 5; i++) {
            House.due("judge", house.judge("fn main() { print " + i + "; }"), 0);
            House.due("not run yet", house.it.about(0), -1);
            House.due("not run yet", house.it.about(4), -1);
            House.due("not run yet", house.it.out(0, 1), 0);
            House.due("not run yet", house.it.lefts(), 0);
            House.due("count", house.it.count(0), 0);
            House.due("count", house.it.count(1), 1);
            House.due("size", house.it.size(0), -1);
            house.runsAgain("print " + i, 0, "" + i);
            House.due("judge", house.judge(GOOD), 0);
            House.due("count", house.it.count(0), 2);
            house.runsAgain(GOOD, 0, "1 !2");
        }
    }

    private static void counted() {
        LoanHouse x = House.taken(GOOD).it;
        House.due("count of nothing", x.count(4), -1);
        House.due("count of nothing", x.count(-1), -1);
        House.due("variables of f", x.function(0, 0), 1);
        House.due("LEAVES of f", x.function(0, 1), 1);
        House.due("splits of f", x.function(0, 2), 0);
        House.due("LOANS of f", x.function(0, 3), 0);
        House.due("variables of main", x.function(1, 0), 2);
        House.due("LOANS of main", x.function(1, 3), 1);
        House.due("nothing of f", x.function(0, 4), -1);
        House.due("nothing of f", x.function(0, -1), -1);
        House.due("no function", x.function(2, 0), -1);
        House.due("no function", x.function(-1, 0), -1);
        House.due("no size", x.size(2), -1);
        House.due("size", x.size(0), 1);
    }
}
