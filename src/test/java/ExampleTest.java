/** The example that README.md shows, with the answers that it tells. */
public final class ExampleTest {
    private static final String TEXT = "record P told { id: int, sum: int }\n"
        + "fn add(p: &! P, by: & int) { p^.sum = p^.sum + by^; }\n"
        + "fn main() {\n"
        + "  let p = new P { id: 7, sum: read };\n"
        + "  let by = read;\n"
        + "  add(&! p, & by);\n"
        + "  print p.sum;\n"
        + "}\n";

    public static void main(String[] args) {
        LoanHouse house = new LoanHouse();
        feed(house, TEXT);
        House.due("judge", house.judge(TEXT.length()), 0);
        House.due("give", house.give(40), 1);
        House.due("give", house.give(2), 2);
        House.due("run", house.run(500), 0);
        House.due("entries", house.about(4), 2);
        House.due("kind of entry 0", house.out(0, 0), 0);
        House.due("entry 0", house.out(0, 1), 42);
        House.due("kind of entry 1", house.out(1, 0), 1);
        House.due("entry 1", house.out(1, 1), 7);
        House.due("STEPS", house.about(3), 5);
        House.due("why it failed", house.about(2), LoanHouse.NONE);
        House.due("lefts", house.lefts(), 0);
        House.due("places", house.count(2), 6);
        House.due("act", house.place(3, 1), 3);
        House.due("in force at & by", house.place(4, 3), 1);
        House.due("force", house.force(0, 4), 1);
        House.due("variables of add", house.function(0, 0), 2);
        House.due("size", house.size(0), 2);
        bad();
        House.end("ExampleTest");
    }

    private static void bad() {
        LoanHouse house = new LoanHouse();
        String bad = TEXT.replace("& by", "& p.sum");
        feed(house, bad);
        House.due("judge", house.judge(bad.length()), 4);
        House.due("place", house.fault(1), bad.indexOf("p.sum);"));
        House.due("other place", house.fault(2), bad.indexOf("&! p,"));
    }

    /** Feeds a text, twenty bytes with each call, the last ones filled up with 0. */
    static void feed(LoanHouse house, String text) {
        int[] five = new int[5];
        for (int at = 0; at < text.length(); at += 20) {
            for (int i = 0; i < 20; i++) {
                int sign = at + i < text.length() ? text.charAt(at + i) : 0;
                five[i / 4] = five[i / 4] << 8 | sign;
            }
            house.feed(five[0], five[1], five[2], five[3], five[4]);
        }
    }
}
