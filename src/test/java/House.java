/** What the tests have in common: a text is fed and judged, and answers are held against what is due. */
final class House {
    private static int wrong = 0;
    private static int asked = 0;

    final LoanHouse it = new LoanHouse();
    int given;

    /** Feeds the text, filled up with blanks, and judges just it. */
    int judge(String text) {
        feed(text);
        return it.judge(text.length());
    }

    int feed(String text) {
        int answer = 0;
        for (int at = 0; at < text.length(); at += 20) {
            answer = it.feed(number(text, at), number(text, at + 4), number(text, at + 8), number(text, at + 12),
                number(text, at + 16));
        }
        return answer;
    }

    private static int number(String text, int at) {
        int number = 0;
        for (int i = at; i < at + 4; i++) {
            number = number << 8 | (i < text.length() ? text.charAt(i) & 255 : 32);
        }
        return number;
    }

    static void due(String what, long got, long want) {
        asked++;
        if (got != want) {
            wrong++;
            System.out.println(what + " answered " + got + ", due is " + want);
        }
    }

    /** The text must have the FAULT, told at the places (NONE where there is none such). */
    static House fault(String text, int kind, int place, int other) {
        House house = new House();
        due("judge of " + text, house.judge(text), kind);
        due("fault(0) of " + text, house.it.fault(0), kind);
        due("fault(1) of " + text, house.it.fault(1), place);
        due("fault(2) of " + text, house.it.fault(2), other);
        return house;
    }

    /** A text with marks: the FAULT's place is behind the first @, the other place, if any, behind the first $. */
    static House faultAt(int kind, String marked) {
        int place = marked.replace("$", "").indexOf('@');
        int other = marked.replace("@", "").indexOf('$');
        return fault(marked.replace("@", "").replace("$", ""), kind, place, other < 0 ? LoanHouse.NONE : other);
    }

    /** A text without FAULT. */
    static House taken(String text) {
        return fault(text, 0, LoanHouse.NONE, LoanHouse.NONE);
    }

    /** What OUT holds of the latest run: prints as their numbers, what was told with a ! ahead. */
    String out() {
        StringBuilder all = new StringBuilder();
        for (int i = 0; i < it.about(4); i++) {
            all.append(i == 0 ? "" : " ").append(it.out(i, 0) == 1 ? "!" : "").append(it.out(i, 1));
        }
        return all.toString();
    }

    static void same(String what, String got, String want) {
        asked++;
        if (!got.equals(want)) {
            wrong++;
            System.out.println(what + " gave <" + got + ">, due is <" + want + ">");
        }
    }

    /** The text, taken and run, must end so and put this out, with nothing strayed, dropped twice, left or clashing. */
    static House runs(String text, int ended, String out) {
        House house = taken(text);
        house.runsAgain(text, ended, out);
        return house;
    }

    void runsAgain(String text, int ended, String out) {
        due("run of " + text, it.run(50000), ended);
        same("out of " + text, out(), out);
        due("strays of " + text, it.strays(), 0);
        due("twices of " + text, it.twices(), 0);
        due("lefts of " + text, it.lefts(), 0);
        due("clashes of " + text, it.clashes(), 0);
    }

    static void end(String test) {
        System.out.println(test + ": " + asked + " answers, " + wrong + " wrong");
        if (wrong > 0) {
            System.exit(1);
        }
    }
}
