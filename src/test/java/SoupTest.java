import java.util.Random;

/**
 * Texts with random changes: whatever they are, no call throws, places lie in the text, runs leave nothing, and an object
 * that has judged and run others answers as a new one.
 */
public final class SoupTest {
    private static final String[] TEXTS = {
        "choice L { E, C(box N) } record N { v: int, next: L } fn sum(l: & L) -> int { match l { E => { return 0; } C(b) => { return b^^.v + "
            + "sum(& b^^.next); } } } fn main() { let l = new L.E; let k = 0; while k < 5 { l = new L.C(box(new N { v: k, next: l })); k = k + 1; } "
            + "print sum(& l); let c = &! l; while true { match &! c^ { C(b) => { b^^.v = b^^.v * 2; c = &! b^^.next; } _ => { break; } } } "
            + "print sum(& l); match l { C(b) => { let n = open(b); l = n.next; print n.v; } _ => { l = new L.E; } } print sum(& l); }",
        "record T told { n: int } record R { a: T, b: row T } fn f(a: &! R, b: & int) -> &! T of a { if b^ < len(a^.b) { return &! a^.b[b^]; } "
            + "return &! a^.a; } fn main() { let r = new R { b: row T [new T { n: 2 }, new T { n: 3 }], a: new T { n: 1 } }; let i = read; "
            + "let t = f(&! r, & i); t^.n = t^.n + 10; push(r.b, swap(r.a, new T { n: 4 })); while len(r.b) > 0 and not (i == 9) { i = i + 1; "
            + "let u = pop(r.b); if u.n % 2 == 0 { continue; } else if u.n < 0 or false { break; } print -u.n; } print r.a.n / (i - 4); }",
    };
    private static final String[] PIECES = {"&", "&!", "^", ".", "[", "]", "(", ")", "{", "}", ";", ",", "=", "==", "=>", "->", "told", "of", "box",
        "row", "int", "bool", "new", "match", "while", "if", "else", "return", "break", "fail", "print", "let", "not", "-", "_", "0", "true",
        "9223372036854775808", "a", "b", "c", "l", "r", "T", "R", "L", "main", "fn", "record", "choice", "read", "pop", "swap", "push", "len", "open",
        "\u0001", "$", "#"};

    public static void main(String[] args) {
        Random random = new Random(1);
        House house = null;
        for (int i = 0; i < 6000; i++) {
            if (i % 3 == 0) {
                house = new House();
                house.given = i / 3;
                house.it.give(house.given);
            }
            soup(house, changed(random, TEXTS[i % TEXTS.length]), random);
        }
        House.end("SoupTest");
    }

    private static String changed(Random random, String text) {
        String[] parts = text.split("(?<=\\W)|(?=\\W)");
        int changes = 1 + random.nextInt(3);
        for (int i = 0; i < changes; i++) {
            int at = random.nextInt(parts.length);
            switch (random.nextInt(4)) {
                case 0:
                    parts[at] = "";
                    break;
                case 1:
                    parts[at] = parts[at] + " " + PIECES[random.nextInt(PIECES.length)];
                    break;
                case 2:
                    parts[at] = PIECES[random.nextInt(PIECES.length)];
                    break;
                default:
                    parts[at] = parts[random.nextInt(parts.length)];
                    break;
            }
        }
        return String.join("", parts);
    }

    private static void soup(House house, String text, Random random) {
        int kind = house.judge(text);
        int place = house.it.fault(1);
        House.due("a FAULT of " + text, kind >= 0 && kind <= 4 ? 1 : 0, 1);
        House.due("a place of " + text, kind == 0 ? place == -1 ? 1 : 0 : place >= 0 && place <= text.length() ? 1 : 0, 1);
        House.due("another place of " + text, house.it.fault(2) >= 0 ? 1 : 0, kind >= 3 ? 1 : 0);
        House fresh = new House();
        House.due("a new one's FAULT of " + text, fresh.judge(text), kind);
        House.due("a new one's place of " + text, fresh.it.fault(1), place);
        House.due("a new one's other place of " + text, fresh.it.fault(2), house.it.fault(2));
        if (kind != 0) {
            return;
        }
        int steps = 1 + random.nextInt(500);
        fresh.it.give(house.given);
        House.due("run of " + text, house.it.run(steps), fresh.it.run(steps));
        alike(house.it, fresh.it, text);
        House.due("strays of " + text, house.it.strays(), 0);
        House.due("twices of " + text, house.it.twices(), 0);
        House.due("lefts of " + text, house.it.lefts(), 0);
        House.due("clashes of " + text, house.it.clashes(), 0);
        for (int k = 0; k < house.it.count(2); k++) {
            int force = 0;
            for (int loan = 0; loan < house.it.count(3); loan++) {
                force += house.it.force(loan, k);
            }
            House.due("force at " + k + " of " + text, house.it.place(k, 3), force);
        }
    }

    /** What an object that has judged others answers, and a new one. */
    private static void alike(LoanHouse x, LoanHouse fresh, String text) {
        for (int i = 0; i < 10; i++) {
            House.due("about " + i + " of " + text, x.about(i), fresh.about(i));
            House.due("size " + i + " of " + text, x.size(i), fresh.size(i));
            House.due("out " + i + " of " + text, x.out(i, 1), fresh.out(i, 1));
            House.due("kind of out " + i + " of " + text, x.out(i, 0), fresh.out(i, 0));
            for (int what = 0; what < 4; what++) {
                House.due("function " + i + " of " + text, x.function(i, what), fresh.function(i, what));
                House.due("loan " + i + " of " + text, x.loan(i, what), fresh.loan(i, what));
            }
        }
        for (int k = 0; k < x.count(2); k++) {
            House.due("place " + k + " of " + text, x.place(k, 1), fresh.place(k, 1));
            House.due("LOANS at " + k + " of " + text, x.place(k, 3), fresh.place(k, 3));
            House.due("way to " + k + " of " + text, x.place(k, 4), fresh.place(k, 4));
        }
    }
}
