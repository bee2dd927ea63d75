/** Terms IV: what makes and holds LOANS, where they are in force, and each act that they clash with (promises 4, 10, 11, 12). */
public final class LoanEdgesTest {
    private static final String SOME = "record P { x: int, y: int } record S { a: P, b: box P, c: row P } record U told { n: int, d: box D } "
        + "choice C { V, W(int, int) } choice D { E, N(U, U) } fn p() -> P { return new P { x: 1, y: 2 }; } "
        + "fn s() -> S { return new S { a: p(), b: box(p()), c: row P [p(), p()] }; } fn y() -> bool { return true; } "
        + "fn first(a: & int, b: & int) -> & int of a { return a; } fn both(a: & int, b: & int) -> & int of a, b { return b; } "
        + "fn other(a: & int) -> & int { fail; } fn sole(a: &! int, b: & int) -> &! int of a { return a; } fn as(a: &! int) -> & int of a { return & a^; } "
        + "fn part(a: &! P) -> &! int of a { return &! a^.x; } fn get(a: & int) -> int { return a^; } fn add(a: & int, b: int) { } "
        + "fn set(a: &! int, b: int) { } ";
    private static final String[] PLACES = {"", ".a", ".a.x", ".a.y", ".b", ".b^", ".b^.x", ".b^.y", ".c", ".c[0]", ".c[1]", ".c[0].x", ".c[1].y"};
    private static final String[] TYPES = {"S", "P", "int", "int", "box P", "P", "int", "int", "row P", "P", "P", "int", "int"};

    public static void main(String[] args) {
        clashes();
        ofReferences();
        ofShared();
        atEnds();
        probes();
        waiting();
        apart();
        turns();
        lastUses();
        given();
        bindsInOrder();
        least();
        results();
        numbers();
        House.end("LoanEdgesTest");
    }

    private static String main(String body) {
        return SOME + "fn main() { " + body + " }";
    }

    private static void wrong(String body) {
        House.faultAt(4, main(body));
    }

    private static void taken(String body) {
        House.taken(main(body));
    }

    private static String value(String type) {
        switch (type) {
            case "int":
                return "1";
            case "P":
                return "p()";
            case "S":
                return "s()";
            case "box P":
                return "box(p())";
            default:
                return "row P []";
        }
    }

    /** Whether one of the places begins with the other, all [ ] being alike. */
    private static boolean meet(String one, String other) {
        String a = one.replaceAll("\\[.\\]", "[]");
        String b = other.replaceAll("\\[.\\]", "[]");
        return a.startsWith(b) || b.startsWith(a);
    }

    private static boolean moves(int place) {
        return place < 2 || place == 4 || place == 8;
    }

    /** All acts that the place can bear, the place's name behind a @; READ and LEND first, as so many. */
    private static String[] acts(String name, int place) {
        String at = "@" + name + PLACES[place];
        String type = TYPES[place];
        String read = type.equals("int") ? "print " + at + ";" : type.equals("row P") ? "print len(" + at + ");" : "let z = & " + at + ";";
        String move = moves(place) && !name.equals("r^") ? "let z = " + at + ";" : "let z = &! " + at + ";";
        String change = type.equals("row P") ? "push(" + at + ", p());" : "swap(" + at + ", " + value(type) + ");";
        String pop = type.equals("row P") ? "let z = pop(" + at + ");" : "let z = swap(" + at + ", " + value(type) + ");";
        return new String[] {read, "let z = & " + at + ";", "let z = &! " + at + ";", move, at + " = " + value(type) + ";", change, pop};
    }

    /** Each act at each place, while each LOAN of each place is in force, and while it is not any more. */
    private static void clashes() {
        pairs("let v = s(); ", "v");
        pairs("let v = s(); let r = &! v; ", "r^");
    }

    private static void pairs(String head, String name) {
        for (int lent = 0; lent < PLACES.length; lent++) {
            for (int place = 0; place < PLACES.length; place++) {
                String[] acts = acts(name, place);
                for (int act = 0; act < acts.length; act++) {
                    for (String sign : new String[] {"& ", "&! "}) {
                        boolean clash = meet(PLACES[lent], PLACES[place]) && (sign.equals("&! ") || act > 1);
                        String lend = "let l = $" + sign + name + PLACES[lent] + "; ";
                        if (clash) {
                            wrong(head + lend + acts[act] + " let u = l;");
                        } else {
                            taken(head + lend.replace("$", "") + acts[act].replace("@", "") + " let u = l;");
                        }
                        taken(head + lend.replace("$", "") + "let u = l; " + acts[act].replace("@", ""));
                    }
                }
            }
        }
    }

    /** A reference itself: moved it clashes with LOANS of what is behind its ^, given anew it does not. */
    private static void ofReferences() {
        for (int lent = 0; lent < PLACES.length; lent++) {
            for (String sign : new String[] {"& ", "&! "}) {
                String lend = "let l = $" + sign + "r^" + PLACES[lent] + "; ";
                wrong("let v = s(); let w = s(); let r = &! v; " + lend + "let z = @r; let u = l;");
                taken("let v = s(); let w = s(); let r = &! v; " + lend.replace("$", "") + "r = &! w; let u = l;");
                taken("let v = s(); let w = s(); let r = &! v; " + lend.replace("$", "") + "let u = l; let z = r;");
                // What was lent is in force all the same.
                wrong("let v = s(); let w = s(); let r = $&! v; " + lend.replace("$", "") + "r = &! w; @v = s(); let u = l;");
                taken("let v = s(); let w = s(); let r = &! v; " + lend.replace("$", "") + "r = &! w; w = s(); let u = l;");
                // A param is as a variable.
                String text = SOME + "fn main() { } fn f(r: &! S, w: &! S) { " + lend;
                House.faultAt(4, text + "let z = @r; let u = l; }");
                House.taken((text + "r = w; let u = l; }").replace("$", ""));
                House.taken((text + "w = r; }").replace("$", ""));
                House.faultAt(4, text + "w = @r; let u = l; }");
                House.faultAt(4, text + "@r^ = s(); let u = l; }");
            }
        }
    }

    /** Through the ^ of a & no LOAN is made; what the & holds is held on. */
    private static void ofShared() {
        for (int lent = 0; lent < PLACES.length; lent++) {
            String lend = "let l = & r^" + PLACES[lent] + "; ";
            taken("let v = s(); let w = s(); let r = & v; " + lend + "let z = r; r = & w; let u = l; v = s();");
            wrong("let v = s(); let r = $& v; " + lend + "@v = s(); let u = l;");
            wrong("let v = s(); let r = $& v; " + lend + "r = & v; @v.a = p(); let u = l;");
            taken("let v = s(); let r = & v; " + lend + "print v.a.x; let z = & v; let u = l;");
            House.due("no LOAN", House.taken(SOME + "fn main() { } fn f(r: & S) { " + lend + "let z = r; let u = l; }").it.count(3), 2);
        }
    }

    /** END: of the variable alone; of variables with & or &! none. */
    private static void atEnds() {
        for (int lent = 0; lent < PLACES.length; lent++) {
            for (String sign : new String[] {"& ", "&! "}) {
                String lend = "l = $" + sign + "v" + PLACES[lent] + "; ";
                String head = "let o = s(); let l = " + sign + "o" + PLACES[lent] + "; ";
                wrong(head + "if y() { let v = s(); " + lend + "@} let u = l;");
                wrong(head + "while y() { let v = s(); " + lend + "@break; } let u = l;");
                wrong(head + "while y() { let v = s(); " + lend + "if y() { @continue; } return; } let u = l;");
                wrong(head + "while y() { let u = l; l = " + sign + "o" + PLACES[lent] + "; let v = s(); " + lend + "@}");
                taken((head + "if y() { let v = s(); " + lend + "let u = l; }").replace("$", ""));
                taken((head + "if y() { let v = s(); " + lend + "fail; } let u = l;").replace("$", ""));
                taken((head + "if y() { let v = s(); " + lend + "return; } let u = l;").replace("$", ""));
                taken((head + "if y() { let v = s(); " + lend + "l = " + sign + "o" + PLACES[lent] + "; } let u = l;").replace("$", ""));
                // The variable has no value any more, but it ENDS.
                House.faultAt(4, SOME + "fn main() { } fn f(v: S) -> " + sign + TYPES[lent] + " { @return $" + sign + "v" + PLACES[lent] + "; }");
                // A reference ENDS without a clash.
                String inner = sign.equals("& ") ? "let r = & o; l = & r^" : "let r = &! o; l = &! r^";
                taken("let o = s(); let k = s(); let l = " + sign + "k" + PLACES[lent] + "; if y() { " + inner + PLACES[lent] + "; } let u = l;");
                House.taken(SOME + "fn main() { } fn f(r: &! S) -> " + sign + TYPES[lent] + " of r { let q = &! r^; return " + sign + "q^" + PLACES[lent] + "; }");
            }
        }
    }

    /** How many LOANS are in force where a # is, at the READ of a variable that has nothing to do with them. */
    private static void probe(String body, int due) {
        String text = main("let pr = 0; let a = 1; let b = 2; let q = p(); let c = new C.W(1, 2); " + body.replace("#", "print pr;"));
        LoanHouse x = House.taken(text).it;
        int place = text.indexOf("print pr;") + 6;
        for (int k = 0; k < x.count(2); k++) {
            if (x.place(k, 0) == place) {
                House.due("LOANS in force in " + body, x.place(k, 3), due);
                int force = 0;
                for (int i = 0; i < x.count(3); i++) {
                    force += x.force(i, k);
                }
                House.due("force in " + body, force, due);
            }
        }
        for (int i = 0; i < x.count(3); i++) {
            int acts = 0;
            for (int k = 0; k < x.count(2); k++) {
                acts += x.force(i, k);
            }
            House.due("acts of LOAN " + i + " in " + body, x.loan(i, 3), acts);
        }
    }

    private static void probes() {
        probe("let r = & a; # print r^;", 1);
        probe("let r = & a; print r^; #", 0);
        probe("# let r = & a; print r^;", 0);
        probe("let r = & a; # let s = r;", 1);
        probe("let r = &! a; # let s = r;", 1);
        probe("let r = & a; let s = & b; # print r^ + s^;", 2);
        probe("let r = & a; let s = & b; # print s^;", 1);
        // Its own LOAN, and what the variable holds through whose ^ its place goes.
        probe("let r = & a; let s = & r^; # print s^;", 1);
        probe("let r = &! a; let s = & r^; # print s^;", 2);
        probe("let r = &! a; let s = &! r^; # s^ = 1;", 2);
        probe("let r = &! q; let s = &! r^; let t = &! s^.x; # t^ = 1;", 3);
        probe("let r = &! q; let s = &! r^; let t = &! s^.x; t^ = 1; # s^.y = 1;", 2);
        probe("let r = &! q; let s = &! r^; let t = &! s^.x; t^ = 1; # r^.y = 1;", 1);
        probe("let r = & q; let s = & r^; let t = & s^.x; # print t^;", 1);
        // A copy or a move what the variable holds.
        probe("let r = & a; let s = r; # print s^;", 1);
        probe("let r = & a; let s = r; # print r^ + s^;", 1);
        probe("let r = &! a; let s = r; # s^ = 1;", 1);
        probe("let r = &! q; let s = &! r^.x; let t = s; # t^ = 1;", 2);
        probe("let r = & a; let s = r; let t = s; # print t^;", 1);
        // An int of a place holds nothing.
        probe("let r = & a; let s = r^; # print s;", 0);
        probe("let r = &! q; let s = swap(r^.x, 3); # print s;", 0);
        // Of a call what the arguments hold for the params behind of.
        probe("let r = first(& a, & b); # print r^;", 1);
        probe("let r = first(& b, & a); # print r^;", 1);
        probe("let r = both(& a, & b); # print r^;", 2);
        probe("let r = both(& a, & a); # print r^;", 2);
        probe("let r = other(& a); # print r^;", 0);
        probe("let r = first(first(& a, & b), & b); # print r^;", 1);
        probe("let r = both(first(& a, & b), first(& b, & a)); # print r^;", 2);
        probe("let r = both(both(& a, & b), other(& a)); # print r^;", 2);
        probe("let r = get(& a); # print r;", 0);
        probe("let r = as(&! a); # print r^;", 1);
        probe("let r = sole(&! a, & b); # r^ = 1;", 1);
        probe("let r = part(&! q); # r^ = 1;", 1);
        probe("let r = &! q; let s = part(&! r^); # s^ = 1;", 2);
        probe("let r = &! q; let s = part(r); # s^ = 1;", 1);
        probe("let r = & a; let s = first(r, & b); # print s^;", 1);
        probe("let r = first(& a, & b); let s = & r^; # print s^;", 1);
        // A bind what the value of the match holds.
        probe("match & c { W(l, m) => { # print l^; } _ => { } }", 1);
        probe("match & c { W(l, m) => { # print m^; } _ => { } }", 1);
        probe("match & c { W(l, m) => { # print l^ + m^; } _ => { } }", 1);
        probe("match & c { W(l, m) => { print l^ + m^; # } _ => { } }", 0);
        probe("match & c { W(l, m) => { } _ => { # } }", 0);
        probe("match &! c { W(l, m) => { # l^ = 1; } _ => { } }", 1);
        probe("match c { W(l, m) => { # print l; } _ => { } }", 0);
        probe("let r = & c; match r { W(l, m) => { # print l^; } _ => { } }", 1);
        probe("let r = & c; match r { W(l, m) => { # match r { _ => { } } } _ => { } }", 1);
        probe("let r = &! c; match r { W(l, m) => { # l^ = 2; } _ => { } }", 1);
        probe("let r = &! c; match &! r^ { W(l, m) => { # l^ = 2; } _ => { } }", 2);
        probe("let r = &! c; match & r^ { W(l, _) => { # print l^; } _ => { } } r^ = new C.V;", 2);
        probe("let r = &! c; match & r^ { W(_, _) => { # } _ => { } } r^ = new C.V;", 1);
        // Of a match within an arm it is that one's own, and behind it the outer one's again.
        probe("let o = new C.V; match & c { V => { match & o { W(l, m) => { # print l^; } _ => { } } } W(l, m) => { print l^; } }", 1);
        probe("let o = new C.V; match & c { V => { match o { W(l, m) => { print l; } _ => { } } } W(l, m) => { # print l^; } }", 1);
        probe("let o = new C.V; match o { V => { match & c { W(l, m) => { print l^; } _ => { } } } W(l, m) => { # print l; } }", 0);
        wrong("let c = new C.V; let o = new C.V; match $& c { V => { match & o { _ => { } } } W(l, m) => { @c = new C.V; print l^; } }");
        taken("let c = new C.V; let o = new C.V; match & c { V => { match & o { _ => { } } } W(l, m) => { o = new C.V; print l^; } }");
        wrong("let c = new C.V; let o = new C.V; match & c { V => { } W(l, m) => { match $& o { V => { } W(a, b) => { @o = new C.V; print b^ + l^; } } } }");
        wrong("let c = new C.V; let o = new C.V; match $& c { V => { } W(l, m) => { match & o { V => { } W(a, b) => { @c = new C.V; print b^ + l^; } } } }");
        // On several ways what it holds on any.
        probe("let r = & a; if y() { r = & b; } # print r^;", 2);
        probe("let r = & a; r = & b; # print r^;", 1);
        probe("let r: & int; if y() { r = & a; } else { r = & b; } # print r^;", 2);
        probe("let r: & int; if y() { r = & a; } else { r = & b; fail; } # print r^;", 1);
        probe("let r = & a; while y() { r = & b; } # print r^;", 2);
        probe("let r = & a; while y() { # print r^; r = & b; }", 2);
        probe("let r = & a; while y() { r = & b; # print r^; }", 1);
        probe("let r = & a; while y() { if y() { r = & b; continue; } # print r^; break; }", 2);
        probe("let r = & a; while y() { if y() { r = & b; break; } # print r^; }", 1);
        probe("let r = & a; match c { V => { r = & b; } _ => { } } # print r^;", 2);
        // Used behind it on some way, before it is given anew.
        probe("let r = & a; # if y() { print r^; }", 1);
        probe("let r = & a; # if y() { r = & b; } print r^;", 1);
        probe("let r = & a; # r = & b; print r^;", 0);
        probe("let r = & a; # if y() { r = & b; } else { r = & a; } print r^;", 0);
        probe("let r = & a; # while y() { print r^; }", 1);
        probe("let r = & a; while y() { print r^; # }", 1);
        probe("let r = & a; while y() { print r^; # break; }", 0);
        probe("let r = & a; while y() { print r^; # return; }", 0);
        probe("let r = & a; while y() { print r^; # r = & b; }", 0);
        probe("let r = & a; # while y() { return; print r^; }", 0);
        probe("let r = & a; # fail; print r^;", 0);
        probe("let r = & a; # if y() or get(r) == 1 { }", 1);
        probe("while y() { # let r = & a; print r^; }", 0);
        probe("let r = & a; # let s = 1; if y() { let r = & b; print r^; }", 0);
        probe("let r = &! a; # r^ = 5;", 1);
        probe("let r = &! a; # swap(r^, 5);", 1);
        probe("let r = & a; if y() { # } else { print r^; }", 0);
        // A param holds itself, that is no LOAN.
        House.due("params", House.taken(SOME + "fn main() { } fn f(a: & int, b: &! int, c: int) { print c; print a^; b^ = 1; }").it.place(0, 3), 0);
    }

    /** A value of an exp is used by what it is for: it is in force at what is worked out in between. */
    private static void waiting() {
        due("add(& a, zz);", 1);
        due("set(&! a, zz);", 1);
        due("add(first(& a, & b), zz);", 1);
        due("add(both(& a, & b), zz);", 2);
        due("add(other(& a), zz);", 0);
        due("add(& a, 1 + get(& b) * zz);", 1);
        due("add(& a, get(first(& b, & b)) + zz);", 1);
        due("let r = & a; add(r, zz);", 1);
        due("let r = &! a; set(r, zz);", 1);
        due("let r = &! a; set(&! r^, zz);", 2);
        due("let r = &! q; set(part(r), zz);", 1);
        due("print get(& a) + zz;", 0);
        due("let r = & a; print r^ + zz;", 0);
        due("let w = row int [1, 2]; add(& w[0], w[zz]);", 1);
        due("let w = row int [1, 2]; w[zz] = get(& a);", 0);
        due("let r = & a; r = first(& b, & b); let z = zz; print r^;", 1);
        due("print get(both(& a, first(& b, & b))) + get(& a) + zz;", 0);
        due("match & c { W(l, m) => { add(l, zz); } _ => { } }", 1);
        due("if y() and get(& a) == zz { }", 0);
        // The act itself does not use what waits.
        due("add(& a, get(& zz));", 1);
        due("add(& a, swap(zz, 1));", 1);
        due("add(& a, get(first(& b, & zz)));", 2);
        // Whatever is worked out between the two.
        for (String exp : new String[] {"1", "read", "1 + 2", "1 + 2 + 3 * read", "- 1", "- read + 1", "b", "q.x", "get(& b)", "len(w)", "w[0]", "w[w[0]]",
            "w[1 + read]", "pop(w)", "swap(b, 2)", "swap(w[0], 3 + 4)", "swap(w[w[1]], w[0])", "open(box(5))", "get(both(& b, & b))"}) {
            due("let w = row int [0, 1]; mid(& a, " + exp + ", zz);", 1);
            due("let w = row int [0, 1]; mid(& a, 0 * (" + exp + ") + 1, zz);", 1);
            due("let w = row int [0, 1]; print " + exp + "; print zz;", 0);
            due("let w = row int [0, 1]; w[0] = " + exp + "; push(w, " + exp.replace("pop(w)", "1") + "); b = zz;", 0);
            due("let w = row int [0, 1]; let r = rest(" + exp + ", & a); b = zz; print r^;", 1);
        }
        for (String exp : new String[] {"y()", "true", "not y()", "y() and y()", "y() or y() or y()", "1 < 2", "y() == true", "y() and 1 == 2 or y()"}) {
            due("test(& a, " + exp + ", zz);", 1);
            due("if " + exp + " { } b = zz;", 0);
            due("let r = that(& a, " + exp + "); b = zz; print r^;", 1);
        }
        for (String exp : new String[] {"new S { a: p(), b: box(p()), c: row P [p(), p()] }", "new S { c: row P [], b: box(q), a: p() }", "s()", "swap(o, s())"}) {
            due("let o = s(); wide(& a, " + exp + ", zz);", 1);
        }
        due("made(& a, new C.V, zz);", 1);
        due("made(& a, new C.W(1, 2 + b), zz);", 1);
        // What a statement gives is held no longer.
        due("first(& a, & b); b = zz;", 0);
        due("sole(&! a, & b); b = zz;", 0);
        due("match & c { _ => { } } b = zz;", 0);
    }

    /** What is returned is not there behind the return, nor is what another fn has held. */
    private static void apart() {
        LoanHouse x = House.taken("fn y() -> bool { return true; } fn f(p: &! int, zz: int) -> & int of p { if y() { return & p^; } print zz; return & p^; } fn main() { }").it;
        House.due("place of zz", x.place(1, 1), 0);
        House.due("behind a return", x.place(1, 3), 0);
        x = House.taken("fn f() { let a = 1; let r = & a; print r^; } fn main() { let p = 1; let q = 2; let s = & p; print q; print q; print s^; print q; }").it;
        int[] due = {0, 0, 0, 1, 1, 0, 0};
        for (int k = 0; k < due.length; k++) {
            House.due("LOANS at place " + k, x.place(k, 3), due[k]);
        }
        x = House.taken("fn f() { let a = 1; let r = & a; print r^; } fn g(p: int, q: int) { let s = & p; print q; print q; } fn main() { }").it;
        for (int k = 2; k < 5; k++) {
            House.due("LOANS at place " + k, x.place(k, 3), 0);
        }
        // The first variable of the text is as all others.
        House.due("no LOAN", House.taken("fn f(a: & int) { let b = & a^; } fn main() { }").it.function(0, 3), 0);
        House.runs("choice C { W(int) } fn main() { match new C.W(1) { W(a) => { print a; } } }", 0, "1");
        House.runs("fn main() { let a = box(3); let b = & a^; print b^; }", 0, "3");
    }

    /** What a variable holds goes on from turn to turn, as far as it can. */
    private static void turns() {
        probe("let u = & a; let v = & a; let w = & a; let z = & a; while y() { # print z^; z = w; w = v; v = u; u = & b; }", 5);
        probe("let u = & a; let v = & a; let w = & a; let z = & a; while y() { z = w; w = v; v = u; u = & b; # print z^; }", 4);
        probe("let v = & a; let w = & a; let z = & a; while y() { while y() { # print z^; z = w; } w = v; v = & b; }", 4);
        probe("let u = & a; let v = & a; while y() { if y() { # print v^; } if y() { v = u; } else { u = & b; } }", 3);
        wrong("let a = 0; let m = 1; let u = & a; let v = & a; let w = & a; let z = & a; while y() { print z^; z = w; w = v; v = u; u = $& m; @m = 2; }");
        wrong("let a = 0; let m = 1; let v = & a; let w = & a; let z = & a; while y() { @m = 2; print z^; z = w; w = v; v = $& m; }");
        // So do params, to a return.
        House.faultAt(4, SOME + "fn main() { } fn f($a: & int, b: & int, c: & int, d: & int) -> & int of b, c, d { while y() { d = c; c = b; b = a; } @return d; }");
        // And what is moved, to an act ahead.
        House.faultAt(3, SOME + "fn e(p: box int) { } fn main() { let a = box(1); let b = box(2); let c = box(3); while y() { e(@$c); if y() { c = b; b = a; return; } "
            + "e(b); e(a); a = box(1); b = box(2); } }");
    }

    /** As many LOANS in force at the act of zz. */
    private static void due(String body, int due) {
        String more = "fn mid(a: & int, b: int, c: int) { } fn rest(b: int, a: & int) -> & int of a { return a; } fn test(a: & int, b: bool, c: int) { } "
            + "fn that(a: & int, b: bool) -> & int of a { return a; } fn wide(a: & int, b: S, c: int) { } fn made(a: & int, b: C, c: int) { } ";
        String text = more + main("let a = 1; let b = 2; let q = p(); let c = new C.W(1, 2); let zz = 0; " + body);
        LoanHouse x = House.taken(text).it;
        int place = text.lastIndexOf("zz");
        int seen = 0;
        for (int k = 0; k < x.count(2); k++) {
            if (x.place(k, 0) == place) {
                seen++;
                House.due("LOANS in force at zz in " + body, x.place(k, 3), due);
            }
        }
        House.due("zz in " + body, seen, 1);
    }

    /** Not what the act itself makes, nor what is used by the act alone: LOANS in force at each place of the body. */
    private static void lastUses() {
        each("let r = & a; print r^;", "00");
        each("let r = & a; print r^; print r^;", "010");
        each("let r = & a; r = & b; print r^;", "0000");
        each("let r = & a; r = r; print r^;", "0000");
        each("let r = & a; let s = r; print s^;", "000");
        each("let r = & a; let s = r; print s^ + r^;", "0110");
        each("let r = &! a; r^ = 1; r^ = 2;", "010");
        each("let r = &! a; let s = &! r^; s^ = 1; r^ = 2;", "0110");
        each("let r = &! a; let s = &! r^; s^ = 1; s^ = 2;", "0020");
        each("let r = &! a; let s = r; s^ = 1;", "000");
        each("let r = &! a; r = &! r^; r^ = 1;", "0000");
        each("let r = &! a; r = &! r^; r^ = 1; r^ = 1;", "00010");
        each("let r = & a; r = first(r, & b); print r^;", "00010");
        each("let r = & a; r = both(r, & b); print r^; print r^;", "000120");
        each("let w = & a; let z = first(w, & b); print z^;", "0010");
        each("let r = & a; while y() { print r^; }", "01");
        each("let r = & a; while y() { r = & b; print r^; }", "0000");
        each("let r = & a; while y() { print r^; r = & b; }", "0000");
        each("let r = & a; let s = & b; r = s; print r^ + s^;", "001110");
    }

    private static void each(String body, String due) {
        String text = main("let a = 1; let b = 2; " + body);
        LoanHouse x = House.taken(text).it;
        int first = x.count(2) - due.length();
        for (int i = 0; i < due.length(); i++) {
            House.due("LOANS at place " + i + " of " + body, x.place(first + i, 3), due.charAt(i) - '0');
        }
        House.due("fn of the first of " + body, x.place(first, 2), 12);
        House.due("fn of the one ahead of " + body, x.place(first - 1, 2) == 12 ? 1 : 0, 0);
    }

    /** When a variable with & or &! is given, all LOANS of places through its ^ go from all that holds them. */
    private static void given() {
        String head = "let v = p(); let w = p(); let r = &! v; let s = &! r^; ";
        probe(head + "# s^.x = 1;", 2);
        probe(head + "r = &! w; # s^.x = 1;", 1);
        probe(head + "r = &! w; # s^.x = 1; r^.x = 1;", 2);
        probe(head + "if y() { r = &! w; } # s^.x = 1;", 2);
        probe(head + "let t = &! s^.x; r = &! w; # t^ = 1;", 2);
        probe(head + "let t = &! s^.x; s = &! w; # t^ = 1;", 2);
        probe(head + "let t = &! s^.x; s = &! w; r = &! w; # t^ = 1;", 1);
        probe("let v = p(); let w = p(); let r = &! v; r = &! r^; # r^.x = 1;", 1);
        probe("let v = p(); let w = p(); let r = &! v; let s = r; r = &! w; # s^.x = 1;", 1);
        // What is no reference takes none with it: that would clash.
        wrong("let v = p(); let s = $&! v.x; @v = p(); s^ = 1;");
        // A let in each turn, with an exp or without one.
        probe("let v = p(); let l = & v.x; while y() { # print l^; let r = &! v; l = & r^.x; }", 3);
        probe("let v = p(); let l = & v.x; while y() { # print l^; let r: &! P; r = &! v; l = & r^.x; }", 3);
        probe("let v = p(); let l = & v.x; while y() { let r: &! P; # print l^; r = &! v; l = & r^.x; }", 2);
        probe("let v = p(); let u = p(); let l = & v.x; while y() { let r = &! u; # print l^; r = &! v; l = & r^.x; }", 2);
        // A bind does so too.
        probe("let d = new C.W(1, 2); let l = & a; while y() { # print l^; match &! d { W(r, _) => { l = & r^; } _ => { return; } } }", 3);
        probe("let d = new C.W(1, 2); let l = & a; while y() { match & c { W(r, _) => { # print l^ + r^; } _ => { } } }", 2);
        probe("let d = new C.W(1, 2); let l = & a; while y() { let k = l; match &! d { W(r, _) => { l = & r^; # print l^; } _ => { return; } } }", 2);
        // The cursor, which goes on through what it has lent.
        taken("let d = new D.E; let r = &! d; while true { match &! r^ { N(l, m) => { r = &! l^.d^; } _ => { break; } } } r^ = new D.E;");
        taken("let d = new D.E; let r = &! d; while true { match r { N(l, m) => { r = &! m^.d^; } _ => { return; } } }");
        wrong("let d = new D.E; let e = new D.E; let r = &! d; let l = &! e; match $&! r^ { N(n, m) => { l = &! n^.d^; @r^ = new D.E; } _ => { } } l^ = new D.E;");
        wrong("let d = new D.E; let e = new D.E; let r = &! d; let l = &! e; while y() { match $&! @r^ { N(n, m) => { l = &! n^.d^; } _ => { } } } l^ = new D.E;");
    }

    /** Binds are given in order: the first one's LOANS go from the value of the match ahead of the second one. */
    private static void bindsInOrder() {
        inOrder("l", "m^.n = 1;", "l^.n = 1;");
        inOrder("m", "l^.n = 1;", "m^.n = 1;");
        inOrder("l", "l^.n = 1;", "m^.n = 1;");
        inOrder("m", "m^.n = 1;", "l^.n = 1;");
    }

    /** In each turn what was lent from a bind in the turn before has gone from both. */
    private static void inOrder(String from, String used, String also) {
        String text = main("let pr = 0; let d = new D.E; let r = &! d; while y() { match r { N(l, m) => { print pr; " + used + also + " r = &! " + from
            + "^.d^; } _ => { return; } } }");
        LoanHouse x = House.taken(text).it;
        for (int k = 0; k < x.count(2); k++) {
            if (x.place(k, 0) == text.indexOf("pr;")) {
                House.due("LOANS in force from " + from, x.place(k, 3), 1);
                House.due("the first one is", x.force(x.count(3) - 2, k), 1);
                House.due("what was lent from the bind is not", x.force(x.count(3) - 1, k), 0);
            }
        }
    }

    /** The least place of an act, an END or a return; then the least LOAN of those that clash there. */
    private static void least() {
        wrong("let a = 1; let r = $& a; let s = & a; @a = 2; print r^ + s^;");
        wrong("let a = 1; let r = & a; let s = $& a; @a = 2; print s^;");
        wrong("let a = p(); let r = $& a.x; let s = & a.y; @a = p(); print r^ + s^;");
        wrong("let a = p(); let r = & a.x; let s = $& a.y; @a.y = 1; print r^ + s^;");
        wrong("let a = p(); let b = p(); let r = & b.x; let s = $& a.y; @a.y = 1; print r^ + s^;");
        wrong("let a = 1; let r = $& a; @a = 2; a = 3; print r^;");
        wrong("let a = 1; let r = $& a; while y() { @a = 2; if y() { a = 3; } print r^; }");
        wrong("let a = 1; let o = 2; let r = & o; while y() { if y() { @a = 2; } if y() { r = $& a; } } print r^;");
        // Of more fns, and an END or a return among them.
        House.faultAt(4, SOME + "fn f() -> & int { let a = 1; @return $& a; } fn g() { let a = 1; let r = & a; a = 2; print r^; } fn main() { }");
        House.faultAt(4, SOME + "fn g() { let a = 1; let r = $& a; @a = 2; print r^; } fn f(a: & int) -> & int { return a; } fn main() { }");
        House.faultAt(4, SOME + "fn f($a: & int) -> & int { @return a; } fn g() { let a = 1; let r = & a; a = 2; print r^; } fn main() { }");
        // Two variables END at one place.
        wrong("let o = 1; let l = & o; let k = & o; if y() { let a = 1; let b = 2; l = $& a; k = & b; @} print l^ + k^;");
        wrong("let o = 1; let l = & o; let k = & o; if y() { let a = 1; let b = 2; k = $& b; l = & a; @} print l^ + k^;");
        wrong("let o = 1; let l = & o; let k = & o; if y() { let a = 1; let b = 2; k = & b; l = $& a; @} print l^;");
        wrong("let o = 1; let l = & o; match new C.W(1, 2) { W(a, b) => { l = $& b; if y() { l = & a; } @} _ => { } } print l^;");
        wrong("let o = 1; let l = & o; match new C.W(1, 2) { W(a, _) => { let b = 1; l = $& a; if y() { l = & b; } @} _ => { } } print l^;");
        // FAULT 3 goes ahead, wherever it stands.
        House.faultAt(3, main("let a = 1; let r = & a; a = 2; print r^; let $z: int; print @z;"));
    }

    /** A return whose value holds a param that is not behind of, at the word. */
    private static void results() {
        for (String sign : new String[] {"& ", "&! "}) {
            String fn = "fn main() { } fn f(a: " + sign + "P, b: " + sign + "P, c: " + sign + "P) -> " + sign;
            House.taken(SOME + fn + "P of a { return a; }");
            House.taken(SOME + fn + "P of a, b, c { if y() { return a; } if y() { return b; } return c; }");
            String less = SOME + fn.replace("(a:", "($a:") + "P of b, c { ";
            House.faultAt(4, less + "if y() { return b; } @return a; }");
            House.faultAt(4, less + "if y() { @return a; } return b; }");
            House.faultAt(4, less + "let l = a; @return l; }");
            House.faultAt(4, less + "let l = " + sign + "a^; @return l; }");
            House.faultAt(4, less + "b = a; @return b; }");
            House.faultAt(4, less + "if y() { b = a; } @return b; }");
            House.faultAt(4, less + "while y() { b = a; break; } @return b; }");
            House.faultAt(4, less + "@return " + sign + "a^; }");
            House.taken((less + "a = b; return a; }").replace("$", ""));
            House.taken((less + "a = b; return " + sign + "a^; }").replace("$", ""));
            House.taken((less + "fail; return a; }").replace("$", ""));
            House.faultAt(4, SOME + fn.replace("b:", "$b:") + "int of a, c { @return " + sign + "b^.x; }");
            // The least of more than one; none is behind of.
            House.faultAt(4, SOME + fn.replace("(a:", "($a:") + "P { if y() { b = a; } if y() { b = c; } @return b; }");
            House.faultAt(4, SOME + fn.replace("(a:", "($a:") + "P of c { let l = c; if y() { l = b; } else if y() { l = a; } @return l; }");
            House.faultAt(4, SOME + fn.replace("b:", "$b:") + "P of a { let l = c; if y() { l = b; } else if y() { l = a; } @return l; }");
            // A LOAN goes ahead of a param, though the param's name is ahead.
            House.faultAt(4, SOME + fn + "P { let v = p(); if y() { a = $" + sign + "v; } @return a; }");
            House.taken(SOME + fn + "P { let v = p(); if y() { a = " + sign + "v; } fail; }");
            // Through a call: what its arguments hold behind of.
            String call = "fn g(a: " + sign + "P, b: " + sign + "P) -> " + sign + "P of b { return b; } ";
            House.taken(SOME + call + "fn main() { } fn f(a: " + sign + "P, b: " + sign + "P) -> " + sign + "P of b { return g(a, b); }");
            House.faultAt(4, SOME + call + "fn main() { } fn f($a: " + sign + "P, b: " + sign + "P) -> " + sign + "P of b { @return g(b, a); }");
        }
        // A match of a param binds what holds it.
        House.faultAt(4, SOME + "fn main() { } fn f($c: & C) -> & int { match c { W(l, m) => { @return l; } _ => { fail; } } }");
        House.taken(SOME + "fn main() { } fn f(c: & C) -> & int of c { match c { W(l, m) => { return m; } _ => { fail; } } }");
        House.faultAt(4, SOME + "fn main() { } fn f($c: &! C) -> & int { match &! c^ { W(l, m) => { @return & m^; } _ => { fail; } } }");
        // A result that is none of both holds none.
        House.taken(SOME + "fn main() { } fn f(a: & int, b: &! P) -> int { if y() { return a^; } return b^.x; } fn g(a: & P) -> P { return p(); }");
    }

    /** LOANS are numbered by text in all the text, and so are places; a LOAN tells its sign, kind and place. */
    private static void numbers() {
        String text = SOME + "fn f(w: &! row int, v: & row int) { let a = & w^[get(& v^[get(& w^[0])])]; let b = &! w^; } fn main() { let a = row int [1]; "
            + "let w = &! a[get(& a[0])]; }";
        LoanHouse x = House.taken(text).it;
        int own = x.count(3) - 5;
        int[] signs = {text.indexOf("& w^[get"), text.indexOf("& w^[0]"), text.indexOf("&! w^;"), text.indexOf("&! a[get"), text.indexOf("& a[0]")};
        int[] kinds = {0, 0, 1, 1, 0};
        for (int i = 0; i < 5; i++) {
            House.due("sign of LOAN " + i, x.loan(own + i, 0), signs[i]);
            House.due("kind of LOAN " + i, x.loan(own + i, 1), kinds[i]);
            House.due("place of LOAN " + i, x.place(x.loan(own + i, 2), 0), signs[i] + (kinds[i] == 1 ? 3 : 2));
            House.due("act of its place", x.place(x.loan(own + i, 2), 1), kinds[i] == 1 ? 3 : 2);
            House.due("fn of its place", x.place(x.loan(own + i, 2), 2), i < 3 ? 12 : 13);
        }
        House.due("LOANS of f", x.function(12, 3), 3);
        House.due("LOANS of main", x.function(13, 3), 2);
        // One of another fn is never in force.
        for (int k = 0; k < x.count(2); k++) {
            for (int i = 0; i < x.count(3); i++) {
                if (x.place(k, 2) != x.place(x.loan(i, 2), 2)) {
                    House.due("force of another fn", x.force(i, k), 0);
                }
            }
        }
    }
}
