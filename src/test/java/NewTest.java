/** Promises 1 to 5 and 9, ahead of any program. */
public final class NewTest {
    public static void main(String[] args) {
        LoanHouse x = new LoanHouse();
        House.due("NONE", LoanHouse.NONE, -1);
        House.due("fault", x.fault(0), -1);
        House.due("run", x.run(10), -1);
        House.due("about", x.about(0), -1);
        House.due("out", x.out(0, 0), 0);
        House.due("count", x.count(0), 0);
        House.due("count", x.count(3), 0);
        House.due("count", x.count(4), -1);
        House.due("judge", x.judge(1), -1);
        House.end("NewTest");
    }
}
