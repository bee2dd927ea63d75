/** Terms III: ACTS, LEAVES, what is HELD, ENDS; each act at each LEAF that it asks for (promises 4, 10 and 13). */
public final class WayEdgesTest {
    private static final String SOME = "record T told { n: int, b: box int } record R { a: T, b: row int } record Q { r: R, x: box R, c: int } "
        + "record E { } choice C { V, W(T) } fn t() -> T { return new T { n: 1, b: box(2) }; } fn r() -> R { return new R { a: t(), b: row int [1] }; } "
        + "fn k() -> Q { return new Q { r: r(), x: box(r()), c: 3 }; } fn c() -> C { return new C.V; } fn y() -> bool { return true; } "
        + "fn e(t: T) { } fn e1(t: row int) { } fn e2(t: box R) { } fn i(t: T) -> int { return 1; } fn u(t: T) -> bool { return true; } "
        + "fn two(t: T, s: T) { } fn lend(t: & T, s: int) { } ";
    /** An act, and the LEAVES of q (a bit each: q.r.a, q.r.b, q.x, q.c) that must be held at it. */
    private static final String[][] ASKING = {{"let z = @q;", "15"}, {"let z = @q.r;", "3"}, {"let z = @q.r.a;", "1"}, {"let z = @q.r.b;", "2"},
        {"let z = @q.x;", "4"}, {"let z = @q.c;", "8"}, {"let z = & @q;", "15"}, {"let z = &! @q;", "15"}, {"let z = & @q.r;", "3"},
        {"let z = &! @q.r;", "3"}, {"let z = & @q.r.a;", "1"}, {"let z = &! @q.r.a.n;", "1"}, {"let z = & @q.r.a.b^;", "1"},
        {"let z = & @q.x^;", "4"}, {"let z = & @q.x^.b[0];", "4"}, {"let z = &! @q.r.b[0];", "2"}, {"print len(@q.r.b);", "2"},
        {"push(@q.r.b, 1);", "2"}, {"pop(@q.r.b);", "2"}, {"swap(@q.c, 1);", "8"}, {"swap(@q.r, r());", "3"}, {"swap(@q, k());", "15"},
        {"swap(@q.x^.a.n, 1);", "4"}, {"swap(@q.r.a.n, 1);", "1"}, {"print @q.r.a.n;", "1"}, {"print @q.r.b[0];", "2"}, {"print @q.x^.a.b^;", "4"},
        {"push(@q.x^.b, 1);", "4"}, {"q = k();", "0"}, {"q.r = r();", "0"}, {"q.r.a = t();", "0"}, {"q.r.b = row int [];", "0"},
        {"q.x = box(r());", "0"}, {"q.c = 1;", "0"}, {"@q.r.a.n = 1;", "1"}, {"@q.r.a.b = box(1);", "1"}, {"@q.r.a.b^ = 1;", "1"},
        {"@q.r.b[0] = 1;", "2"}, {"@q.x^ = r();", "4"}, {"@q.x^.a = t();", "4"}, {"@q.x^.b[0] = 1;", "4"}};
    private static final String[] GIVES = {"q.r.a = t(); ", "q.r.b = row int []; ", "q.x = box(r()); ", "q.c = 1; "};
    private static final String[] MOVES = {"e($q.r.a); ", "e1($q.r.b); ", "e2($q.x); "};

    public static void main(String[] args) {
        acts();
        given();
        moved();
        partly();
        flows();
        within();
        otherPlaces();
        bare();
        others();
        unreached();
        many();
        splits();
        ends();
        House.end("WayEdgesTest");
    }

    private static String main(String body) {
        return SOME + "fn main() { " + body + " }";
    }

    private static void wrong(String body) {
        House.faultAt(3, main(body));
    }

    private static void taken(String body) {
        House.taken(main(body));
    }

    /** Each place has one ACT, and they are numbered by text, not as they run. */
    private static void acts() {
        acts("print a;", "0");
        acts("let z = a == a and p;", "000");
        acts("let z = s; let y = s^;", "00");
        acts("let z = m;", "1");
        acts("let z = q; q = k();", "14");
        acts("let z = q.r; q.r = r();", "14");
        acts("let z = q.x^.a.n + q.c;", "00");
        acts("let z = & a; let y = &! a; let o = & q.r.b; let l = &! q.r.b[0];", "2323");
        acts("let z = & s^; let y = & m^; let o = &! m^;", "223");
        acts("a = 1; q.r.a.n = 2; m^ = 3; s = & a; q.r.b[0] = 4;", "444424");
        acts("push(q.r.b, a); pop(q.r.b); swap(a, 1); swap(q, k()); print pop(q.x^.b); print swap(m^, a);", "50555550");
        acts("print len(q.r.b); print len(q.x^.b);", "00");
        acts("q.r.b[a] = q.r.b[q.r.b[a + len(q.r.b)]];", "400000");
        acts("match o { _ => { } } o = c(); match & o { _ => { } } match &! o { _ => { } } match n { W(z) => { let y = z; } _ => { } }", "142300");
        acts("let z = open(q.x); q.x = box(z);", "141");
        acts("let z = new R { a: q.r.a, b: q.r.b }; q.r = z;", "1141");
        acts("if p { } while p { } print a + a; return;", "0000");
        acts("swap(q.r.b[a], q.r.b[q.c]);", "5000");
        acts("push(q.r.b, q.r.b[0]); let z = box(row int [a, q.c]);", "5000");
        acts("let z = (p); let y = - a; let l = not p;", "000");
        acts("e(q.r.a); lend(& q.x^.a, a); q.r.a = t();", "1204");
    }

    /** Of a fn whose params are used up by no act; what is lent or moved there is not asked for again. */
    private static void acts(String body, String acts) {
        String text = SOME + "fn main() { } fn f(a: int, p: bool, s: & int, m: &! int, q: Q, o: C, n: & C) { " + body + " }";
        LoanHouse x = House.taken(text).it;
        int first = 0;
        while (first < x.count(2) && x.place(first, 2) < 13) {
            first++;
        }
        House.due("places of " + body, x.count(2) - first, acts.length());
        int last = -1;
        for (int i = 0; i < acts.length(); i++) {
            House.due("act " + i + " of " + body, x.place(first + i, 1), acts.charAt(i) - '0');
            House.due("order of " + i + " of " + body, x.place(first + i, 0) > last ? 1 : 0, 1);
            last = x.place(first + i, 0);
        }
    }

    /** A let without exp, then some LEAVES are given: what an act asks for must be among them. */
    private static void given() {
        for (int set = 0; set < 16; set++) {
            StringBuilder gives = new StringBuilder();
            for (int leaf = 0; leaf < 4; leaf++) {
                gives.append((set >> leaf & 1) == 1 ? GIVES[leaf] : "");
            }
            for (String[] act : ASKING) {
                boolean held = (Integer.parseInt(act[1]) & ~set) == 0;
                if (held) {
                    taken("let q: Q; " + gives + act[0].replace("@", ""));
                } else {
                    wrong("let $q: Q; " + gives + act[0]);
                }
            }
        }
    }

    /** Some LEAVES are moved, in their order or against it: the first that lacks tells the other place. */
    private static void moved() {
        String[] heads = {"fn main() { let q = k(); ", "fn main() { } fn f(q: Q) { ", "fn main() { let q: Q; q = k(); ",
            "choice D { X(Q) } fn main() { match new D.X(k()) { X(q) => { "};
        for (int set = 0; set < 8; set++) {
            for (String[] act : ASKING) {
                int lacking = Integer.parseInt(act[1]) & set;
                for (int h = 0; h < heads.length; h++) {
                    String text = SOME + heads[h] + moves(set, lacking, h % 2 == 0) + act[0] + (h == 3 ? " } } }" : " }");
                    if (lacking == 0) {
                        House.taken(text.replace("@", ""));
                    } else {
                        House.faultAt(3, text);
                    }
                }
            }
        }
    }

    private static String moves(int set, int lacking, boolean inOrder) {
        StringBuilder moves = new StringBuilder();
        for (int i = 0; i < 3; i++) {
            int leaf = inOrder ? i : 2 - i;
            if ((set >> leaf & 1) == 1) {
                boolean told = lacking != 0 && leaf == Integer.numberOfTrailingZeros(lacking);
                moves.append(told ? MOVES[leaf] : MOVES[leaf].replace("$", ""));
            }
        }
        return moves.toString();
    }

    /** A move of the whole, or of what has some LEAVES, takes them all; GIVE to what it is of gives them. */
    private static void partly() {
        for (int leaf = 0; leaf < 2; leaf++) {
            String use = leaf == 0 ? "print @q.r.a.n;" : "print len(@q.r.b);";
            wrong("let q = k(); let z = $q; " + use);
            wrong("let q = k(); let z = $q.r; " + use);
            wrong("let q = k(); let z = $q; q.x = box(r()); q.c = 1; " + use);
            wrong("let q = k(); let z = $q; q.r." + (leaf == 0 ? "b = row int []" : "a = t()") + "; " + use);
            String free = use.replace("@", "");
            taken("let q = k(); let z = q; q = k(); " + free);
            taken("let q = k(); let z = q; q.r = r(); " + free);
            taken("let q = k(); let z = q.r; q = k(); " + free);
            taken("let q = k(); let z = q.r; q.r = r(); " + free);
            taken("let q = k(); let z = q.r; " + GIVES[leaf] + free);
            taken("let q = k(); let z = q.x; " + free);
        }
        // A record without fields is a LEAF itself.
        wrong("let a = new E { }; let b = $a; let c = & @a;");
        taken("let a = new E { }; let b = a; a = new E { }; let c = a;");
        wrong("let $a: E; let b = @a;");
        // Ints, bools and & that are copied stay held.
        taken("let a = 1; let b = a; let c = a; let d = true; let e = d; let f = d; let g = & a; let h = g; let l = g;");
        wrong("let a = 1; let g = &! a; let h = $g; let l = @g;");
        wrong("let a = 1; let g = &! a; let h = $g; let l = & @g^;");
        wrong("let a = 1; let g = &! a; let h = $g; @g^ = 1;");
        taken("let a = 1; let g = &! a; let h = g; g = h; g^ = 1;");
    }

    private static void flows() {
        String[] taken = {"if y() { M G } U", "if y() { M } else { M } G U", "if y() { M return; } U", "if y() { M fail; } U", "while y() { M return; } U",
            "while y() { M fail; } U", "while y() { M G } U", "while y() { G U M }", "while y() { if y() { M break; } U }", "M if y() { G } else { G } U",
            "while y() { if y() { M G continue; } U }", "while y() { while y() { M return; } U }", "match c() { V => { M } _ => { M } } G U",
            "match c() { V => { M return; } _ => { } } U", "match c() { V => { M fail; } _ => { U } }", "M if y() { G } else { fail; } U",
            "M match c() { _ => { G } } U", "M match c() { V => { G } W(_) => { G } } U", "M match c() { V => { G } W(_) => { return; } } U",
            "if y() { M } else if y() { U M } else { U }", "if y() { M } else { U } G U", "while y() { while y() { U } M G U }", "U M G U",
            "while y() { M if y() { G } else { break; } U }", "M while y() { G U M }", "if false { M fail; } U", "while y() { M G if y() { continue; } U }",
            "while y() { while y() { M break; } G } U", "M return; U", "while y() { M break; U } ", "while y() { M return; U }"};
        for (String flow : taken) {
            taken("let a = t(); " + flow.replace("M", "e(a);").replace("G", "a = t();").replace("U", "print a.n;"));
        }
        String[] wrong = {"if y() { M } U", "if y() { M } else { } U", "if y() { } else { M } U", "if y() { } else if y() { M } U",
            "if y() { } else if y() { } else { M } U", "if y() { } else if y() { M } else { } U", "while y() { M break; } U", "while y() { G M } U",
            "while y() { U M }", "while y() { M G M break; } U",
            "match c() { V => { M } W(_) => { } } U", "match c() { V => { } W(_) => { M } } U", "match c() { V => { } _ => { M } } U",
            "M if y() { G } U", "M while y() { G } U", "M while true { G } U", "M while true { G break; } U", "M match c() { V => { G } _ => { } } U",
            "if false { M } U", "while false { M break; } U", "if true { } else { M } U", "M if y() { } else { G } U", "M if y() { G return; } U",
            "while y() { if y() { M } if y() { break; } G } U", "while y() { U if y() { M } else { G } }", "M G M U", "while true { U M if y() { break; } }",
            "while y() { U while y() { M break; } }", "while y() { while y() { M break; } if y() { U return; } G }"};
        for (String flow : wrong) {
            // All moves are one and the same LEAF's: the least from which a way leads to the use.
            String body = flow.replace("G", "a = t();").replace("U", "print @a.n;");
            int first = flow.startsWith("M G M U") || flow.contains("M G M break") ? 1 : 0;
            StringBuilder marked = new StringBuilder();
            int seen = 0;
            for (char sign : body.toCharArray()) {
                marked.append(sign == 'M' ? seen++ == first ? "e($a);" : "e(a);" : "" + sign);
            }
            wrong("let a = t(); " + marked);
        }
        // In the next turn the move itself is the least place.
        wrong("let a = t(); while y() { if y() { e(@$a); continue; } print a.n; }");
        wrong("let a = t(); while y() { while y() { e(@$a); break; } print a.n; }");
        wrong("let a = t(); while y() { e(@$a); if y() { a = t(); } if y() { continue; } a = t(); } print a.n;");
    }

    /** Within an exp: from the left, each before the act of what is around it; the exp ahead of the place. */
    private static void within() {
        wrong("let a = t(); two($a, @a);");
        wrong("let a = t(); let z = i($a) + @a.n;");
        taken("let a = t(); let z = a.n + i(a);");
        wrong("let a = t(); let z = i($a) * 2 < @a.n;");
        wrong("let a = t(); let z = row T [t(), $a, @a];");
        wrong("let a = t(); let z = new R { b: row int [i($a)], a: @a };");
        wrong("let a = t(); let z = new R { a: $a, b: row int [@a.n] };");
        taken("let a = t(); let z = new R { b: row int [a.n], a: a };");
        wrong("let a = t(); lend(& a, i($a)); print @a.n;");
        wrong("let a = t(); let b = row int [1]; b[i($a)] = 2; print @a.n;");
        // Of an assignment, push or swap the exp comes first, then the exps in [ ] of the place.
        wrong("let a = t(); let b = row int [1]; b[@a.n] = i($a);");
        taken("let a = t(); let b = row int [1]; b[i(a)] = 2; a = t(); b[0] = a.n;");
        wrong("let a = t(); let b = row row int []; push(b[@a.n], i($a));");
        wrong("let a = t(); let b = row int [1]; swap(b[@a.n], i($a));");
        wrong("let a = t(); let b = row row int [row int []]; print b[i($a)][@a.n];");
        wrong("let a = row int [1]; @a[0] = len(a) + g($a);", "fn g(a: row int) -> int { return 1; } ");
        wrong("let a = row int [1]; push(@a, g($a));", "fn g(a: row int) -> int { return 1; } ");
        wrong("let a = row int [1]; swap(@a[0], g($a));", "fn g(a: row int) -> int { return 1; } ");
        taken("let a = row int [1]; a = a; a[0] = a[0] + len(a);");
        // and, or: the right one on some ways only.
        wrong("let a = t(); if y() and u($a) { } print @a.n;");
        wrong("let a = t(); if y() or u($a) { } print @a.n;");
        wrong("let a = t(); if u($a) or y() { } print @a.n;");
        wrong("let a = t(); if u($a) and u(@a) { }");
        wrong("let a = t(); if u($a) or u(@a) { }");
        wrong("let a = t(); if y() and u($a) or u(@a) { }");
        wrong("let a = t(); while u(@$a) { }");
        wrong("let a = t(); while y() and u(@$a) { }");
        taken("let a = t(); while u(a) { a = t(); }");
        wrong("let a = t(); while u(@$a) { if y() { a = t(); } }");
        taken("let a = t(); while u(a) { if y() { a = t(); } else { return; } }");
        wrong("let a = t(); while u($a) { a = t(); } print @a.n;");
        wrong("let a = t(); match new C.W($a) { _ => { print @a.n; } }");
        wrong("let a = c(); match $a { _ => { } } match & @a { _ => { } }");
        wrong("let a = c(); match $a { V => { a = c(); } _ => { } } match & @a { _ => { } }");
        taken("let a = c(); match a { W(b) => { a = new C.W(b); } _ => { a = c(); } } match & a { _ => { } }");
    }

    private static void wrong(String body, String more) {
        House.faultAt(3, SOME + more + "fn main() { " + body + " }");
    }

    /** Its other place: the least one of a move or let from which a way leads there on which the LEAF is not given. */
    private static void otherPlaces() {
        wrong("let a = t(); if y() { e(a); return; } e($a); print @a.n;");
        wrong("let a = t(); e(a); a = t(); e($a); print @a.n;");
        wrong("let a = t(); if y() { e($a); } else { e(a); } print @a.n;");
        wrong("let a = t(); if y() { e(a); a = t(); } else { e($a); } print @a.n;");
        wrong("let $a: T; if y() { a = t(); e(a); } print @a.n;");
        wrong("let a: T; a = t(); e($a); print @a.n;");
        wrong("let a: T; if y() { a = t(); e($a); } else { a = t(); } print @a.n;");
        wrong("let a = t(); while y() { if y() { e($a); } else { e(a); } break; } print @a.n;");
        wrong("let a = t(); while y() { a = t(); while y() { e($a); break; } if y() { return; } } print @a.n;");
        // A let or a bind of the next turn gives it, so no way leads on from the turn before.
        wrong("while y() { let a = t(); if y() { e(a); continue; } e($a); print @a.n; }");
        wrong("while y() { match new C.W(t()) { W(a) => { if y() { e(a); continue; } e($a); print @a.n; } _ => { } } }");
        wrong("while y() { let a: T; a = t(); if y() { e(a); continue; } e($a); print @a.n; }");
        // From a turn that is never left to the act no way leads there.
        wrong("let a = t(); let k = 0; if y() { e(a); while k < 3 { k = k + 1; } return; } e($a); print @a.n;");
        wrong("let a = t(); let k = 0; if y() { e(a); while k < 3 { k = k + 1; a = t(); e(a); } fail; } e($a); print @a.n;");
        // The act itself can be the move, in the turn before.
        wrong("let a = t(); while y() { e(@$a); }");
        wrong("let a = t(); while y() { print @a.n; e($a); }");
        // The least place of an act, though another is met first.
        wrong("let a = t(); while y() { print @a.n; if y() { e($a); print a.n; } }");
        // A move of what it is of, or of the whole.
        wrong("let q = k(); let z = $q; q.x = box(r()); print @q.c;");
        wrong("let q = k(); let z = $q.r; let w = q.x; print @q.r.a.n;");
        // The first LEAF of those that lack tells it, though the other's move is ahead.
        wrong("let q = k(); let z = q.x; let w = $q.r; let v = @q;");
        wrong("let q = k(); let z = q.r.b; let w = $q.r.a; let v = & @q.r;");
        wrong("let q: Q; q.r = r(); q.x = box(r()); q.c = 1; e1($q.r.b); e2(q.x); let v = @q;");
        wrong("let $q: Q; q.r = r(); e1(q.r.b); e(q.r.a); q.r = r(); let v = @q;");
    }

    /** A let without exp is like a move, at its name, also in a later turn. */
    private static void bare() {
        for (String type : new String[] {"int", "bool", "T", "R", "Q", "E", "C", "box int", "row int", "& int", "&! int"}) {
            wrong("let $a: " + type + "; let b = @a;");
            wrong("while y() { let $a: " + type + "; let b = @a; }");
            wrong("if y() { let $a: " + type + "; let b = @a; }");
            taken("let a: " + type + "; while y() { let a: " + type + "; }");
        }
        wrong("let a = 1; while y() { let $a: int; if y() { a = 1; } print @a; }");
        taken("let a = 1; while y() { let a: int; if y() { a = 1; } else { a = 2; } print a; } print a;");
        wrong("while y() { let $a: int; print @a; a = 1; }");
        // Each variable of a name is one of its own.
        taken("let a = 1; if y() { let a: int; } print a;");
        wrong("let a = 1; if y() { let $a: int; print @a; } print a;");
        wrong("let $a: int; if y() { let a = 1; print a; } print @a;");
        taken("let a = t(); e(a); let a = t(); e(a);");
    }

    private static void others() {
        // FAULT 3 of all fns: the least place; FAULT 2 goes ahead, and FAULT 4 behind.
        House.faultAt(3, SOME + "fn f() { let $a: int; print @a; } fn g() { let b: int; print b; } fn main() { let c: int; print c; }");
        House.faultAt(3, SOME + "fn f() { let a: int; a = 1; print a; } fn g() { let $b: int; print @b; } fn main() { }");
        House.faultAt(2, main("let a: int; print a; print @b;"));
        House.faultAt(2, main("let a: int; print a;") + " fn f() -> int { @}");
        wrong("let a = 1; let b = & a; a = 2; print b^; let $c: int; print @c;");
        // A param is held at first, all its LEAVES.
        House.taken(SOME + "fn f(q: Q, a: int, s: & int, m: &! int, e: E) { let z = q; let y = a; let w = s; let v = m; let u = e; } fn main() { }");
        for (String type : new String[] {"T", "Q", "E", "C", "box int", "row int", "&! int"}) {
            House.faultAt(3, SOME + "fn f(a: " + type + ") { let b = $a; let c = @a; } fn main() { }");
        }
    }

    /** An act that no way comes to breaks nothing, and takes nothing. */
    private static void unreached() {
        String[] dead = {"return;", "fail;", "if y() { return; } else { fail; }", "match c() { V => { return; } _ => { fail; } }",
            "while y() { break; X }", "while y() { continue; X }", "while y() { if y() { break; } else { continue; } X }",
            "if y() { return; } else if y() { fail; } else { return; }", "while y() { return; X }", "match c() { _ => { fail; X } }",
            "while y() { match c() { V => { break; } W(_) => { continue; } } X }"};
        for (String flow : dead) {
            String use = "print a.n; print b; e(a); e(a);";
            String body = flow.contains("X") ? flow.replace("X", use) : flow + " " + use;
            String text = main("let a = t(); e(a); let b: int; " + body);
            LoanHouse x = House.taken(text).it;
            int last = x.count(2) - 1;
            for (int i = 0; i < 4; i++) {
                House.due("way to " + i + " of " + body, x.place(last - i, 4), 0);
                House.due("LOANS at " + i + " of " + body, x.place(last - i, 3), 0);
            }
            House.due("way to what is ahead of " + body, x.place(last - 4, 4), 1);
        }
        // What is behind a while, or an arm of whatever test, can be come to.
        for (String flow : new String[] {"while true { }", "while true { fail; }", "while true { return; }", "if true { return; }", "if false { } else { fail; }",
            "if true { return; } else if true { fail; }", "while false { X }", "if false { X }", "if true { } else { X }", "while true { X }",
            "match c() { V => { X } _ => { fail; } }"}) {
            String body = flow.contains("X") ? flow.replace("X", "print a.n;") : flow + " print a.n;";
            LoanHouse x = House.taken(main("let a = t(); " + body)).it;
            House.due("way of " + body, x.place(x.count(2) - 1, 4), 1);
            wrong("let a = t(); e($a); " + body.replace("print a", "print @a"));
        }
        // and, or: the right one can be come to, whatever the left one.
        LoanHouse x = House.taken(main("let a = t(); if false and a.n == 1 or true or a.n == 2 { }")).it;
        House.due("way to the right one", x.place(x.count(2) - 1, 4), 1);
        House.due("way to the right one", x.place(x.count(2) - 2, 4), 1);
        // What no way comes to gives nothing, either.
        wrong("let a = t(); e($a); while y() { if y() { break; a = t(); } } print @a.n;");
        taken("let a = t(); while y() { if y() { break; e(a); } } print a.n;");
    }

    /** Each fn has LEAVES of its own, however many there are ahead of it in the text. */
    private static void many() {
        StringBuilder head = new StringBuilder(SOME);
        for (int f = 0; f < 4; f++) {
            head.append("fn m").append(f).append("() { ");
            for (int i = 0; i < 15; i++) {
                head.append("let v").append(i).append(": Q; ");
            }
            head.append("} ");
        }
        for (int ahead = 0; ahead < 5; ahead++) {
            String body = "let z: E; ".repeat(ahead) + "let q = k(); ";
            for (int leaf = 0; leaf < 3; leaf++) {
                House.faultAt(3, head + "fn main() { " + body + MOVES[leaf] + "let w = @q; }");
                House.faultAt(3, head + "fn main() { " + body.replace("q = k()", "$q: Q") + GIVES[leaf] + "let w = @q; }");
                String text = head + "fn main() { " + body + "if y() { " + MOVES[leaf].replace("$", "") + "} }";
                House.due("splits of " + text, House.taken(text).it.function(16, 2), 1);
                House.runs(text, 0, "!1 !1");
            }
        }
    }

    /** LEAVES that at some END (which a way comes to) are held on some ways and not on others. */
    private static void splits() {
        String[][] flows = {{"", "0"}, {"e(q.r.a);", "0"}, {"if y() { e(q.r.a); }", "1"}, {"if y() { e(q.r.a); } else { e1(q.r.b); }", "2"},
            {"if y() { let z = q; }", "4"}, {"if y() { let z = q; } else { let z = q; }", "0"}, {"if y() { let z = q.r; }", "2"},
            {"if y() { let z = q; q.c = 1; }", "3"}, {"if y() { let z = q; q = k(); }", "0"}, {"if y() { e(q.r.a); return; }", "0"},
            {"if y() { e(q.r.a); fail; }", "0"}, {"if y() { e(q.r.a); } fail;", "0"}, {"if y() { e(q.r.a); } return;", "1"},
            {"if y() { e(q.r.a); } if y() { return; }", "1"}, {"if y() { e(q.r.a); } if y() { return; } q.r.a = t();", "1"},
            {"if y() { e(q.r.a); } q.r.a = t();", "0"}, {"while y() { e(q.r.a); q.r.a = t(); }", "0"}, {"while y() { e(q.r.a); break; }", "1"},
            {"if y() and u(q.r.a) { }", "1"}, {"if u(q.r.a) and y() { }", "0"}, {"match c() { V => { e(q.r.a); } _ => { } }", "1"},
            {"match c() { V => { e(q.r.a); } _ => { e(q.r.a); } }", "0"}, {"if y() { e(q.r.a); } if y() { e1(q.r.b); } if y() { e2(q.x); }", "3"}};
        for (String[] flow : flows) {
            House.due("splits of " + flow[0], House.taken(main("let q = k(); " + flow[0])).it.function(12, 2) , Integer.parseInt(flow[1]));
            String param = SOME + "fn f(q: Q) { " + flow[0] + " } fn main() { }";
            House.due("splits of a param with " + flow[0], House.taken(param).it.function(12, 2), Integer.parseInt(flow[1]));
            String inner = "while y() { let q = k(); " + flow[0] + " }";
            House.due("splits in a while with " + flow[0], House.taken(main(inner)).it.function(12, 2), Integer.parseInt(flow[1]));
        }
        // A let without exp, given on some ways.
        House.due("splits", House.taken(main("let a: int; if y() { a = 1; }")).it.function(12, 2), 1);
        House.due("splits", House.taken(main("let a: Q; if y() { a.c = 1; }")).it.function(12, 2), 1);
        House.due("splits", House.taken(main("let a: Q; if y() { a = k(); }")).it.function(12, 2), 4);
        House.due("splits", House.taken(main("let a: Q;")).it.function(12, 2), 0);
        // A bind, a & and a &!.
        House.due("splits", House.taken(main("match c() { W(t) => { if y() { e(t); } } _ => { } }")).it.function(12, 2), 1);
        House.due("splits", House.taken(main("let a = 1; let b = &! a; if y() { let d = b; }")).it.function(12, 2), 1);
        House.due("splits", House.taken(main("let b: & int; let a = 1; if y() { b = & a; print b^; }")).it.function(12, 2), 1);
        // At one END on all ways, at the other on none.
        House.due("splits", House.taken(main("let a = t(); if y() { e(a); return; } print 1;")).it.function(12, 2), 0);
        House.due("splits", House.taken(main("while y() { let a = t(); if y() { e(a); break; } if y() { continue; } }")).it.function(12, 2), 0);
        House.due("splits", House.taken(main("while y() { let a = t(); if y() { e(a); } if y() { break; } if not y() { a = t(); continue; } a = t(); }"))
            .it.function(12, 2), 1);
        // Two variables, each its own.
        House.due("splits", House.taken(main("let a = t(); let b = t(); if y() { e(a); } else { e(b); }")).it.function(12, 2), 2);
        House.due("of another fn", House.taken(main("let a = t(); if y() { e(a); }") + " fn f() { }").it.function(13, 2), 0);
    }

    /** Where a block is left its variables END, the latest first; a fn's params behind the others. */
    private static void ends() {
        String told = "record T told { n: int } fn t(n: int) -> T { return new T { n: n }; } choice C { W(T, T) } ";
        String[][] runs = {{"let a = t(1); let b = t(2); let c = t(3);", "!3 !2 !1"}, {"let a = t(1); if true { let b = t(2); let c = t(3); } print 4;", "!3 !2 4 !1"},
            {"let a = t(1); if true { let b = t(2); let c = t(3); return; } print 4;", "!3 !2 !1"},
            {"let a = t(1); while true { let b = t(2); if true { let c = t(3); let d = t(4); break; } } print 5;", "!4 !3 !2 5 !1"},
            {"let a = 0; while a < 2 { a = a + 1; let b = t(a); if true { let c = t(a + 10); continue; } } print 5;", "!11 !1 !12 !2 5"},
            {"while true { let a = t(1); while true { let b = t(2); let c = t(3); break; } let d = t(4); break; } print 5;", "!3 !2 !4 !1 5"},
            {"match new C.W(t(1), t(2)) { W(a, b) => { let c = t(3); print 0; } } print 5;", "0 !3 !2 !1 5"},
            {"while true { match new C.W(t(1), t(2)) { W(a, b) => { let c = t(3); break; } } } print 5;", "!3 !2 !1 5"},
            {"while true { match new C.W(t(1), t(2)) { W(_, b) => { let c = t(3); return; } } } print 5;", "!1 !3 !2"},
            {"let a = t(1); let a = t(2); let b = t(3);", "!3 !2 !1"}, {"if true { let a = t(1); } else { let b = t(2); } let c = t(3);", "!1 !3"},
            {"f(t(1), t(2));", "8 !4 !3 !2 !1"}, {"print g(t(1), t(2));", "!4 !3 !2 !1 9"}, {"let a = t(0); f(t(1), a); print 7;", "8 !4 !3 !0 !1 7"}};
        for (String[] run : runs) {
            House.runs(told + "fn f(a: T, b: T) { let c = t(3); let d = t(4); print 8; } fn g(a: T, b: T) -> int { let c = t(3); if true { let d = t(4); "
                + "return 9; } fail; } fn main() { " + run[0] + " }", 0, run[1]);
        }
    }
}
