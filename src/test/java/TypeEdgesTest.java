/** Terms II, TYPES: each rule with all that keeps it and with each kind of thing that breaks it (promises 3 and 4). */
public final class TypeEdgesTest {
    private static final String SOME = "record R { a: int, b: bool } record E { } record T told { n: int, b: box int } "
        + "record Q { r: R, t: T, x: box R } choice C { V, W(int, bool), X(R) } "
        + "fn k0() -> int { fail; } fn k1() -> bool { fail; } fn k2() -> R { fail; } fn k3() -> C { fail; } fn k4() -> box int { fail; } "
        + "fn k5() -> row int { fail; } fn k6() -> & int { fail; } fn k7() -> &! int { fail; } fn none() { } "
        + "fn g0(a: int) { } fn g1(a: bool) { } fn g2(a: R) { } fn g3(a: C) { } fn g4(a: box int) { } fn g5(a: row int) { } "
        + "fn g6(a: & int) { } fn g7(a: &! int) { } ";
    private static final String[] NAMES = {"i", "p", "r", "c", "x", "w", "s", "m"};
    private static final String[] KINDS = {"int", "bool", "R", "C", "box int", "row int", "& int", "&! int"};
    private static final String[] ALL = {"int", "bool", "R", "E", "T", "Q", "C", "box int", "box R", "box box int", "row int", "row R", "row row int",
        "& int", "& bool", "& R", "& C", "& box int", "& row int", "&! int", "&! bool", "&! R", "&! C", "&! row int", "&! box int"};

    public static void main(String[] args) {
        operators();
        asked();
        named();
        steps();
        results();
        lends();
        made();
        variants();
        calls();
        moves();
        shared();
        lets();
        told();
        owned();
        matches();
        binds();
        returns();
        behind();
        ofs();
        untyped();
        noneInside();
        House.end("TypeEdgesTest");
    }

    /** A body in which there is one variable of each kind. */
    private static String within(String body) {
        StringBuilder params = new StringBuilder();
        for (int i = 0; i < NAMES.length; i++) {
            params.append(i == 0 ? "" : ", ").append(NAMES[i]).append(": ").append(KINDS[i]);
        }
        return SOME + "fn main() { } fn f(" + params + ") { " + body + " }";
    }

    private static void wrong(String body) {
        House.faultAt(2, within(body));
    }

    private static void right(String body) {
        House.taken(within(body));
    }

    private static boolean among(String one, String... all) {
        for (String other : all) {
            if (other.equals(one)) {
                return true;
            }
        }
        return false;
    }

    /** Each kind in the place of the # is told wrong at its first token, but for these. */
    private static void asks(String around, String... types) {
        for (int i = 0; i < NAMES.length; i++) {
            if (among(KINDS[i], types)) {
                right(around.replace("#", NAMES[i]));
            } else {
                wrong(around.replace("#", "@" + NAMES[i]));
            }
        }
        // What has no type is wrong only in itself, also behind a rule's own sign.
        wrong(around.replace("#", "@q"));
    }

    /** Each kind in the place of the # is told wrong at the mark, but for these. */
    private static void asksAt(String around, String... types) {
        for (int i = 0; i < NAMES.length; i++) {
            if (among(KINDS[i], types)) {
                right(around.replace("#", NAMES[i]).replace("@", ""));
            } else {
                wrong(around.replace("#", NAMES[i]));
            }
        }
        wrong(around.replace("@", "").replace("#", "@q"));
    }

    private static void operators() {
        String[] ints = {"+", "-", "*", "/", "%", "<", "<=", ">", ">="};
        for (String sign : ints) {
            pairs(sign, sign.length() == 1 && "+-*/%".contains(sign) ? "int" : "bool", "int");
        }
        pairs("and", "bool", "bool");
        pairs("or", "bool", "bool");
        pairs("==", "bool", "int", "bool");
        pairs("!=", "bool", "int", "bool");
        asksAt("let z = @- #;", "int");
        asksAt("let z = @not #;", "bool");
        right("let z: int = - i; let y: bool = not p;");
        // The sign at which it is told: the one that has the two sides.
        wrong("let z = i + i * i @+ p + i;");
        wrong("let z = i + i @* p + i;");
        wrong("let z = (i < i) @== i;");
        wrong("let z = i + i @and p;");
        wrong("let z = @not i == i;");
        right("let z = not (i == i) == (i < i); let y = (i < i) == p and p != (i >= i) or not p;");
        wrong("let z = p or p and p @or i;");
        wrong("let z = p or p @and i or p;");
        wrong("let z = - @- p;");
        wrong("let z = not @not i;");
        wrong("let z = @not - i;");
        wrong("let z = @- not p;");
    }

    private static void pairs(String sign, String result, String... types) {
        for (int i = 0; i < NAMES.length; i++) {
            for (int j = 0; j < NAMES.length; j++) {
                if (KINDS[i].equals(KINDS[j]) && among(KINDS[i], types)) {
                    right("let z: " + result + " = " + NAMES[i] + " " + sign + " " + NAMES[j] + ";");
                } else {
                    wrong("let z: C = " + NAMES[i] + " @" + sign + " " + NAMES[j] + ";");
                }
            }
            // Of two sides the one that has a type can break it.
            if (among(KINDS[i], types)) {
                wrong("let z: C = " + NAMES[i] + " " + sign + " @q;");
            } else {
                wrong("let z: C = " + NAMES[i] + " @" + sign + " q;");
            }
            wrong("let z: C = @q " + sign + " " + NAMES[i] + ";");
        }
    }

    /** Rules that are told at the first token of the exp. */
    private static void asked() {
        asks("if # { }", "bool");
        asks("if p { } else if # { }", "bool");
        asks("while # { }", "bool");
        asks("print #;", "int", "bool");
        asks("let z = w[#];", "int");
        asks("w[#] = 1;", "int");
        asks("let z = & w[#];", "int");
        asks("push(w, #);", "int");
        asks("let z = row int [1, #, 2];", "int");
        asks("let z = row R [#];", "R");
        asks("let z = row box int [#];", "box int");
        asks("let z = new C.W(#, true);", "int");
        asks("let z = new C.W(1, #);", "bool");
        asks("let z = new C.X(#);", "R");
        asks("let z = open(#);", "box int");
        asks("let z = box(#);", "int", "bool", "R", "C", "box int", "row int");
        asks("match # { _ => { } }", "C");
        asks("swap(i, #);", "int");
        asks("print swap(r.a, #);", "int");
        String[] taken = {"i", "p", "r", "c", "x", "w", "s", "m"};
        for (int i = 0; i < KINDS.length; i++) {
            asks(taken[i] + " = #;", KINDS[i]);
            asks("g" + i + "(#);", KINDS[i]);
            if (i < 6) {
                // The place is as the exp: of a swap with itself the exp comes first, and has no value then but for ints and bools.
                String other = "let z: " + KINDS[i] + " = k" + i + "(); swap(z, #);";
                asks(other, KINDS[i]);
            }
        }
        // The first token of what stands in brackets or has signs.
        wrong("if @(1) { }");
        wrong("if @((1 + 2) * 3) { }");
        wrong("if @1 + 2 * 3 { }");
        wrong("if @- 1 { }");
        wrong("if @read { }");
        wrong("if @& p { }");
        wrong("if @&! p { }");
        wrong("if @new E { } { }");
        wrong("if @new C.V { }");
        wrong("if @box(p) { }");
        wrong("if @open(x) { }");
        wrong("if @row bool [] { }");
        wrong("if @len(w) { }");
        wrong("if @pop(w) { }");
        wrong("if @swap(i, 1) { }");
        wrong("if @k0() { }");
        wrong("if @r.a { }");
        wrong("print @box(p == p);");
    }

    /** Rules that are told at a name or word ahead of the exp. */
    private static void named() {
        for (int i = 0; i < KINDS.length; i++) {
            asksAt("let @z: " + KINDS[i] + " = #;", KINDS[i]);
        }
        asksAt("let z = new R { @a: #, b: true };", "int");
        asksAt("let z = new R { b: true, @a: # };", "int");
        asksAt("let z = new R { @b: #, a: 1 };", "bool");
        asksAt("let z = new T { n: 1, @b: # };", "box int");
        asksAt("print len(@#);", "row int");
        asksAt("let z = pop(@#);", "row int");
        asksAt("push(@#, 1);", "row int");
        asksAt("let z = @& #;", "int", "bool", "R", "C", "box int", "row int");
        asksAt("let z = @&! #;", "int", "bool", "R", "C", "box int", "row int");
        for (int i = 0; i < 6; i++) {
            right("swap(" + NAMES[i] + ", k" + i + "());");
        }
        wrong("@swap(s, k6());");
        wrong("@swap(m, k7());");
        wrong("@swap(s, 1);");
        wrong("let z = @swap(m, 1);");
    }

    /** A . behind a record, a ^ behind a box, & or &!, a [int] behind a row (at that sign). */
    private static void steps() {
        asksAt("let z = #@.a;", "R");
        asksAt("#@.a = 1;", "R");
        asksAt("let z = #@^;", "box int", "& int", "&! int");
        asksAt("let z = #@[0];", "row int");
        asksAt("#@[0] = 1;", "row int");
        asksAt("let z = & #@[0];", "row int");
        asksAt("let z = &! #@.a;", "R");
        asksAt("swap(#@.a, 1);", "R");
        // The sign comes ahead of what stands in the [ ].
        wrong("let z = i@[true];");
        wrong("let z = i@[q];");
        wrong("let z = w[@true]^;");
        wrong("let z = w[0]@^;");
        wrong("let z = w[0]@[0];");
        wrong("let z = w[0]@.a;");
        wrong("let z = x^@^;");
        wrong("let z = x^@.a;");
        wrong("let z = r.a@.a;");
        wrong("let z = r.b@^;");
        wrong("let z = r.@c;");
        wrong("let z = r.@c.d;");
        wrong("let z = x@.a^;");
        // Also what ^ and [ ] give.
        String more = "fn h(q: Q, w: row Q, s: & Q, m: &! Q, x: box Q, y: row row box R, o: row T) { ";
        String text = SOME + "fn main() { } " + more;
        House.taken(text + "print q.r.a; print w[0].r.b; print s^.r.a; print m^.x^.a; print x^.t.n; print y[0][1]^.b; print o[0].n; print o[0].b^; "
            + "print s^.t.b^; print x^.x^.a; m^.r.a = 1; w[1].t.n = 2; y[0][0]^.a = 3; x^.x = box(new R { a: 1, b: true }); }");
        House.faultAt(2, text + "print s@.r; }");
        House.faultAt(2, text + "print w@.r; }");
        House.faultAt(2, text + "print x@.r; }");
        House.faultAt(2, text + "print m@.r; }");
        House.faultAt(2, text + "print s^@^; }");
        House.faultAt(2, text + "print y[0]@^; }");
        House.faultAt(2, text + "print y@^; }");
        House.faultAt(2, text + "print y[0][1]@.b; }");
        House.faultAt(2, text + "print y[0][1]@[1]; }");
        House.faultAt(2, text + "print w[0].@a; }");
        House.faultAt(2, text + "print x^.@a; }");
        House.faultAt(2, text + "print y[0][@false]^.b; }");
        House.faultAt(2, text + "print y[@o[0].b][0]^.b; }");
    }

    /** What each exp has as its type: a let of each other type is broken. */
    private static void results() {
        String[][] exps = {{"1", "int"}, {"read", "int"}, {"true", "bool"}, {"false", "bool"}, {"(1)", "int"}, {"(true)", "bool"}, {"len(w)", "int"},
            {"i", "int"}, {"p", "bool"}, {"r", "R"}, {"c", "C"}, {"x", "box int"}, {"w", "row int"}, {"s", "& int"}, {"m", "&! int"},
            {"(r)", "R"}, {"(s)", "& int"}, {"((m))", "&! int"}, {"r.a", "int"}, {"r.b", "bool"}, {"x^", "int"}, {"w[0]", "int"}, {"s^", "int"},
            {"m^", "int"}, {"& i", "& int"}, {"&! i", "&! int"}, {"& p", "& bool"}, {"&! p", "&! bool"}, {"& r", "& R"}, {"&! r", "&! R"},
            {"& c", "& C"}, {"&! c", "&! C"}, {"& w", "& row int"}, {"&! w", "&! row int"}, {"& x", "& box int"}, {"&! x", "&! box int"},
            {"& w[0]", "& int"}, {"&! x^", "&! int"}, {"& s^", "& int"}, {"& m^", "& int"}, {"&! m^", "&! int"}, {"& r.b", "& bool"},
            {"new R { a: 1, b: true }", "R"}, {"new E { }", "E"}, {"new T { n: 1, b: box(1) }", "T"}, {"new C.V", "C"}, {"new C.W(1, true)", "C"},
            {"new C.X(r)", "C"}, {"box(1)", "box int"}, {"box(r)", "box R"}, {"box(box(1))", "box box int"}, {"open(x)", "int"},
            {"open(box(r))", "R"}, {"open(box(w))", "row int"}, {"row int []", "row int"}, {"row int [1, 2]", "row int"}, {"row R [r]", "row R"},
            {"row row int []", "row row int"}, {"row row int [w]", "row row int"}, {"pop(w)", "int"}, {"swap(i, 1)", "int"}, {"swap(p, true)", "bool"},
            {"swap(r, k2())", "R"}, {"swap(c, k3())", "C"}, {"swap(x, box(1))", "box int"}, {"swap(w, k5())", "row int"}, {"swap(m^, 1)", "int"},
            {"k0()", "int"}, {"k1()", "bool"}, {"k2()", "R"}, {"k3()", "C"}, {"k4()", "box int"}, {"k5()", "row int"}, {"k6()", "& int"},
            {"k7()", "&! int"}, {"i + i", "int"}, {"i < i", "bool"}, {"p and p", "bool"}, {"p or p", "bool"}, {"not p", "bool"}, {"- i", "int"},
            {"p == p", "bool"}, {"i != i", "bool"}};
        for (String[] exp : exps) {
            for (String type : ALL) {
                if (type.equals(exp[1])) {
                    right("let z: " + type + " = " + exp[0] + ";");
                } else {
                    wrong("let @z: " + type + " = " + exp[0] + ";");
                }
            }
        }
    }

    private static void lends() {
        // A & or &! of a place that is one: at the sign, also behind what is broken later.
        wrong("let z = @& s;");
        wrong("let z = @& m;");
        wrong("let z = @&! s;");
        wrong("let z = @&! m;");
        right("let z: & int = & s^; let y: &! int = &! m^; let a: & int = & m^;");
        wrong("let z = &! @s^;");
        wrong("let z: int = &! @s^;");
        wrong("let @z: int = & s^;");
        wrong("let z = & @q;");
        wrong("let z = & r@^;");
        wrong("let z = & r.@c;");
    }

    private static void made() {
        right("let z = new R { a: 1, b: true }; let y = new R { b: true, a: 1 };");
        wrong("let z = new @R { };");
        wrong("let z = new @R { a: 1 };");
        wrong("let z = new @R { b: true };");
        wrong("let z = new @R { a: true };");
        wrong("let z = new R { a: 1, b: true, @c: 1 };");
        wrong("let z = new R { a: 1, b: true, @a: 1 };");
        wrong("let z = new R { a: 1, @a: 1, b: true };");
        wrong("let z = new R { a: 1, b: true, @b: 1 };");
        wrong("let z = new @R { a: 1, a: 1 };");
        wrong("let z = new @R { c: 1, a: 1 };");
        wrong("let z = new E { @a: 1 };");
        wrong("let z = new @C { };");
        wrong("let z = new @S { };");
        wrong("let z = new @f { };");
        wrong("let z = new @R.V;");
        wrong("let z = new @S.V(1 + true);");
        // A record of as many fields as there can be, in each order.
        String many = "record M { a: int, b: bool, c: int, d: bool, e: int, f: bool, g: int, h: bool } fn main() { let z = new M { ";
        House.taken(many + "h: true, g: 1, f: true, e: 2, d: true, c: 3, b: true, a: 4 }; }");
        House.faultAt(2, many.replace("new M", "new @M") + "h: true, g: 1, f: true, e: 2, d: true, c: 3, b: true }; }");
        House.faultAt(2, many + "h: true, g: 1, f: true, e: 2, d: true, c: 3, @b: 4, a: 4 }; }");
    }

    private static void variants() {
        right("let z = new C.V; let y = new C.W(1, true); let a = new C.X(r);");
        wrong("let z = new C.@V(1);");
        wrong("let z = new C.@W;");
        wrong("let z = new C.@W(1);");
        wrong("let z = new C.@W(1, true, 2);");
        wrong("let z = new C.@W(true);");
        wrong("let z = new C.@X(1, 2);");
        wrong("let z = new C.@Y;");
        wrong("let z = new C.@Y(q);");
        wrong("let z = new C.@a;");
        wrong("let z = new C.W(@true, 1);");
        wrong("let z = new C.W(1, @1);");
        wrong("let z = new C.W(@q, 1);");
        String many = "choice M { A, B(int, bool, int, bool, int, bool) } fn main() { let z = new M.";
        House.taken(many + "B(1, true, 2, true, 3, true); }");
        House.faultAt(2, many + "@B(1, true, 2, true, 3); }");
        House.faultAt(2, many + "@B(1, true, 2, true, 3, true, 4); }");
        House.faultAt(2, many + "B(1, true, 2, true, 3, @4); }");
    }

    private static void calls() {
        right("none(); k0(); g0(1); g1(k1()); g2(r); g6(& i); g6(s); g7(m);");
        wrong("@none(1);");
        wrong("@g0();");
        wrong("@g0(1, 2);");
        wrong("@g0(true, 2);");
        wrong("g0(@none());");
        wrong("@g0(none(), 1);");
        wrong("let z = @none();");
        wrong("let z: int = @none();");
        wrong("print @none();");
        wrong("i = @none();");
        wrong("let z = i + @none();");
        wrong("let z = @none() + i;");
        wrong("let z = not @none();");
        wrong("if @none() { }");
        wrong("match @none() { }");
        wrong("push(w, @none());");
        wrong("let z = w[@none()];");
        wrong("let z = (@none());");
        wrong("let z = box(@none());");
        wrong("let z = new R { a: @none(), b: true };");
        wrong("@missing();");
        wrong("@missing(q);");
        wrong("g7(@& i);");
        wrong("g6(@&! i);");
        wrong("g6(@m);");
        wrong("g7(@s);");
        wrong("@r();");
        wrong("@R();");
        String many = "fn h(a: int, b: bool, c: int, d: bool, e: int, f: bool, g: int, h: bool) -> bool { return h; } fn main() { let z: bool = ";
        House.taken(many + "h(1, true, 2, true, 3, true, 4, true); }");
        House.faultAt(2, many + "@h(1, true, 2, true, 3, true, 4); }");
        House.faultAt(2, many + "@h(1, true, 2, true, 3, true, 4, true, 5); }");
        House.faultAt(2, many + "h(1, true, 2, true, 3, true, 4, @5); }");
    }

    /** Others MOVE: only from variables and fields of theirs, fields of such fields. */
    private static void moves() {
        String text = SOME + "fn main() { } fn h(q: Q, w: row Q, s: & Q, m: &! Q, x: box Q, o: T, n: &! int, y: row box int) { ";
        for (String from : new String[] {"q", "q.r", "q.t", "q.x", "w", "m", "x", "o", "n"}) {
            House.taken(text + "let z = " + from + "; }");
            House.taken(text + "let z = box(box(1)); match new C.V { _ => { let a = (" + from + "); } } }");
        }
        for (String from : new String[] {"o.b", "q.t.b", "q.x^", "w[0]", "w[0].r", "s^", "s^.r", "m^", "m^.t", "x^", "x^.r", "x^.t.b", "w[0].t.b", "y[0]"}) {
            House.faultAt(2, text + "let z = @" + from + "; }");
            House.faultAt(2, text + "let z = box(@" + from + "); }");
            House.taken(text + "let z = & " + from + "; }");
        }
        // Ints, bools and & are copied from wherever they are.
        for (String from : new String[] {"o.n", "q.t.n", "q.t.b^", "q.x^.a", "w[0].r.b", "s^.r.a", "s^.t.b^", "m^.t.n", "x^.r.b", "x^.x^.a", "n^", "s", "y[0]^"}) {
            House.taken(text + "let z = " + from + "; let a = " + from + "; }");
        }
        // What a match takes moves too.
        House.faultAt(2, "choice C { V, W(box C) } fn main() { } fn h(c: box C) { match @c^ { _ => { } } }");
        House.faultAt(2, "choice C { V, W(box C) } fn main() { } fn h(c: row C) { match @c[0] { _ => { } } }");
        House.taken("choice C { V, W(box C) } fn main() { } fn h(c: row C) { match pop(c) { _ => { } } match & c[0] { _ => { } } }");
        // An open takes its box as well.
        House.faultAt(2, "fn main() { } fn h(c: row box int) { print open(@c[0]); }");
        House.taken("fn main() { } fn h(c: box box int) { print open(open(c)); }");
        House.taken("record T told { n: int, c: C } choice C { V } fn main() { } fn h(t: T) { match & t.c { _ => { } } let u = t; }");
        House.faultAt(2, "record T told { n: int, c: C } choice C { V } fn main() { } fn h(t: T) { match @t.c { _ => { } } }");
    }

    /** What goes through the ^ of a & is READ and lent by & alone (at the place's name). */
    private static void shared() {
        String text = SOME + "fn main() { } fn h(s: & Q, m: &! Q, b: & box int, v: & row int, u: &! row int, c: & C) { ";
        House.taken(text + "print s^.r.a; print s^.t.n; print s^.x^.b; print b^^; print v^[0]; print len(v^); let z = & s^; let y = & s^.x^.a; let a = & v^[1]; }");
        House.taken(text + "m^.r.a = 1; m^.x^.b = true; push(u^, 1); pop(u^); swap(u^[0], 2); let z = &! m^.t.n; let y = & u^[0]; u^ = row int []; }");
        for (String wrong : new String[] {"@s^ = k9();", "@s^.r.a = 1;", "@s^.t.n = 1;", "@s^.x^.b = true;", "@b^^ = 1;", "@v^[0] = 1;", "push(@v^, 1);",
            "pop(@v^);", "swap(@v^[0], 1);", "let z = pop(@v^);", "swap(@s^.r.a, 1);", "let z = &! @s^;", "let z = &! @s^.r.a;", "let z = &! @b^^;",
            "let z = &! @v^[0];", "let z = @s^;", "let z = @s^.r;", "let z = @s^.x;", "let z = @b^;", "let z = @v^;", "match @c^ { _ => { } }"}) {
            House.faultAt(2, text + wrong + " }");
        }
        // The & itself is given anew, and copied.
        House.taken(text + "s = s; let z = s; z = s; c = c; }");
    }

    private static void lets() {
        wrong("let @z;");
        right("let z: int; let y = 1; let a: int = 1;");
        wrong("let z: @S;");
        wrong("let z: @S = 1;");
        wrong("let z = @q;");
        wrong("let z: @S = q;");
        wrong("let z: int = @q;");
        wrong("let @z: bool = 1; q = 1;");
        wrong("let @z: & int = &! i;");
        wrong("let @z: &! int = & i;");
        wrong("let @z: row row int = row int [];");
        wrong("let @z: box int = 1;");
        right("let z: & int; let y: &! int; z = s; y = m;");
    }

    /** A told record has a first field, an int (at its name). */
    private static void told() {
        House.taken("record R told { a: int } fn main() { }");
        House.taken("record R told { a: int, b: bool } record S { } fn main() { }");
        House.faultAt(2, "record @R told { } fn main() { }");
        for (String type : new String[] {"bool", "box int", "row int", "S", "C"}) {
            House.faultAt(2, "record @R told { a: " + type + ", b: int } record S { a: int } choice C { V } fn main() { }");
            House.taken("record R { a: " + type + ", b: int } record S { a: int } choice C { V } fn main() { }");
            House.taken("record R told { b: int, a: " + type + " } record S { a: int } choice C { V } fn main() { }");
        }
        House.faultAt(2, "record R told { a: @X } fn main() { }");
        House.faultAt(2, "record R told { a: @& int } fn main() { }");
    }

    /** Fields of records, types of variants, and what is behind box, row, &, &! are no & or &! (at that sign). */
    private static void owned() {
        for (String sign : new String[] {"&", "&!"}) {
            for (String type : new String[] {"int", "box int", "R"}) {
                String wrong = "@" + sign + " " + type;
                House.faultAt(2, SOME + "record Z { a: int, b: " + wrong + " } fn main() { }");
                House.faultAt(2, SOME + "choice Z { A(int, " + wrong + ") } fn main() { }");
                House.faultAt(2, SOME + "record Z { a: row box " + wrong + " } fn main() { }");
                for (String ahead : new String[] {"box ", "row ", "& ", "&! ", "box row ", "& box ", "&! row "}) {
                    House.faultAt(2, SOME + "fn main() { } fn h(a: " + ahead + wrong + ") { }");
                    House.faultAt(2, SOME + "fn main() { } fn h() -> " + ahead + wrong + " { fail; }");
                    wrong("let z: " + ahead + wrong + ";");
                }
                wrong("let z = row " + wrong + " [];");
                wrong("let z = row row " + wrong + " [];");
                House.taken(SOME + "fn main() { } fn h(a: " + sign + " " + type + ") -> " + sign + " " + type + " of a { let b: " + sign + " " + type
                    + " = a; return b; }");
            }
        }
        // The one within is at fault, and what is around it has no type.
        wrong("let z: & @&! int = 1;");
        wrong("let z: box row @& int = 1;");
    }

    private static void matches() {
        String text = SOME + "fn main() { } fn h(c: C, d: & C, e: &! C) { ";
        for (String of : new String[] {"c", "d", "e", "& c", "&! c", "& d^", "& e^", "&! e^", "new C.V", "k3()", "(c)"}) {
            House.taken(text + "match " + of + " { V => { } W(_, _) => { } X(_) => { } } }");
            House.taken(text + "match " + of + " { X(_) => { } V => { } W(_, _) => { } } }");
            House.taken(text + "match " + of + " { X(_) => { } _ => { } } }");
            House.taken(text + "match " + of + " { _ => { } } }");
            House.faultAt(2, text + "@match " + of + " { } }");
            House.faultAt(2, text + "@match " + of + " { V => { } W(_, _) => { } } }");
            House.faultAt(2, text + "@match " + of + " { X(_) => { } W(_, _) => { } } }");
            House.faultAt(2, text + "match " + of + " { V => { } W(_, _) => { } X(_) => { } @V => { } } }");
            House.faultAt(2, text + "match " + of + " { V => { } @V => { } _ => { } } }");
            House.faultAt(2, text + "match " + of + " { _ => { } @V => { } } }");
            House.faultAt(2, text + "match " + of + " { _ => { } @_ => { } } }");
            House.faultAt(2, text + "match " + of + " { V => { } _ => { } @X(_) => { } } }");
            House.faultAt(2, text + "match " + of + " { @Y => { } _ => { } } }");
            House.faultAt(2, text + "@match " + of + " { Y => { } } }");
            // All are told, and a _ behind them all the same.
            House.taken(text + "match " + of + " { V => { } W(_, _) => { } X(_) => { } _ => { } } }");
        }
        House.faultAt(2, text + "match @box(c) { _ => { } } }");
        House.faultAt(2, text + "match @1 { } }");
        House.faultAt(2, text + "match @new R { a: 1, b: true } { R => { } } }");
        House.faultAt(2, text + "let r = new R { a: 1, b: true }; match @& r { } }");
        // What breaks no rule by its type breaks those of the arms.
        House.faultAt(2, text + "match l() { V => { } @V => { } } } fn l() -> S { fail; }");
        House.faultAt(2, text + "match l() { _ => { } @V => { } } } fn l() -> S { fail; }");
        House.faultAt(2, text + "match l() { A(b, @b) => { } } } fn l() -> S { fail; }");
        House.faultAt(2, text + "match l() { A(b, c) => { } B => { print @q; } } } fn l() -> S { fail; }");
        House.faultAt(2, text + "match l() { A(b, c) => { let z: int = b; let y: bool = b; } } } fn l() -> @S { fail; }");
    }

    private static void binds() {
        String text = SOME + "fn main() { } fn h(c: C, d: & C, e: &! C) { match ";
        for (String of : new String[] {"c", "d", "e", "& c", "new C.V"}) {
            House.taken(text + of + " { W(a, b) => { } X(a) => { } V => { } } }");
            House.faultAt(2, text + of + " { @W => { } _ => { } } }");
            House.faultAt(2, text + of + " { @W(a) => { } _ => { } } }");
            House.faultAt(2, text + of + " { @W(a, b, i) => { } _ => { } } }");
            House.faultAt(2, text + of + " { @W(_, _, _) => { } _ => { } } }");
            House.faultAt(2, text + of + " { @V(_) => { } _ => { } } }");
            House.faultAt(2, text + of + " { @X => { } _ => { } } }");
            House.faultAt(2, text + of + " { W(a, @a) => { } _ => { } } }");
            House.faultAt(2, text + of + " { @W(a, a, a) => { } _ => { } } }");
            House.taken(text + of + " { W(_, _) => { } _ => { } } }");
        }
        // Bound is a part, or & or &! of it.
        String[][] kinds = {{"c", ""}, {"d", "& "}, {"e", "&! "}, {"& c", "& "}, {"&! c", "&! "}, {"& e^", "& "}, {"k3()", ""}};
        String[] parts = {"int", "bool", "R"};
        for (String[] kind : kinds) {
            for (int i = 0; i < parts.length; i++) {
                String arm = i == 2 ? " { X(a) => { " : i == 0 ? " { W(a, _) => { " : " { W(_, a) => { ";
                for (String type : ALL) {
                    if (type.equals(kind[1] + parts[i])) {
                        House.taken(text + kind[0] + arm + "let z: " + type + " = a; } _ => { } } }");
                    } else {
                        House.faultAt(2, text + kind[0] + arm + "let @z: " + type + " = a; } _ => { } } }");
                    }
                }
            }
        }
        House.faultAt(2, text + "d { W(a, b) => { @a^ = 1; } _ => { } } }");
        House.taken(text + "e { W(a, b) => { a^ = 1; b^ = true; } _ => { } } }");
        House.faultAt(2, text + "d { X(a) => { let z = @a^; } _ => { } } }");
    }

    private static void returns() {
        for (int i = 0; i < KINDS.length; i++) {
            for (int j = 0; j < KINDS.length; j++) {
                String head = SOME + "fn main() { } fn h(a: " + KINDS[j] + ") -> " + KINDS[i] + (i == j && i > 5 ? " of a" : "") + " { ";
                if (i == j) {
                    House.taken(head + "return a; }");
                } else {
                    House.faultAt(2, head + "@return a; }");
                }
            }
            String head = SOME + "fn main() { } fn h() -> " + KINDS[i] + " { ";
            House.faultAt(2, head + "@return; }");
            House.faultAt(2, head + "return @q; }");
            House.taken(head + "return k" + i + "(); }");
            House.faultAt(2, head + "return @none(); }");
        }
        wrong("@return 1;");
        wrong("@return i;");
        right("return;");
        right("if p { return; } return;");
        House.faultAt(2, "fn main() { @return 1; }");
        House.faultAt(2, "fn main() { } fn h() -> int { if true { @return; } return 1; }");
        // break, continue in a while.
        wrong("@break;");
        wrong("@continue;");
        wrong("if p { @break; }");
        wrong("while p { } @continue;");
        wrong("while p { while p { break; } continue; } @break;");
        wrong("match c { _ => { @break; } }");
        right("while p { if p { break; } match c { _ => { break; } } }");
        right("while p { while p { break; } continue; }");
    }

    /** A fn with a result whose end can be come to: at its }. */
    private static void behind() {
        String[] closed = {"return 1;", "fail;", "return 1; print 1;", "fail; print 1; while true { }", "if true { return 1; } else { fail; }",
            "if true { return 1; } else if true { return 2; } else { return 3; }", "if true { fail; } else { if true { return 1; } else { return 2; } }",
            "match k3() { _ => { fail; } }", "match k3() { V => { return 1; } _ => { fail; } }", "if true { } return 1;", "while true { } fail;",
            "match k3() { V => { return 1; } W(a, b) => { if b { return a; } else { fail; } } X(_) => { fail; } }",
            "while true { break; } return 1;", "while true { continue; } return 1;", "return 1; if true { }", "fail; match k3() { _ => { } }",
            "if true { match k3() { _ => { return 1; } } } else { return 2; }", "if true { return 1; print 2; } else { fail; print 3; }"};
        for (String body : closed) {
            House.taken(SOME + "fn main() { } fn h() -> int { " + body + " }");
            House.taken(SOME + "fn main() { } fn h() -> int { return 1; } fn l() { " + body.replace("return 1", "return").replace("return 2", "return")
                .replace("return 3", "return").replace("return a", "return") + " }");
        }
        String[] left = {"", "print 1;", "if true { return 1; }", "if true { return 1; } else { }", "if true { } else { return 1; }",
            "if true { return 1; } else if true { return 2; }", "if true { return 1; } else if true { } else { return 2; }",
            "while true { return 1; }", "while true { fail; }", "while true { if true { break; } else { return 1; } }", "while true { continue; }",
            "match k3() { V => { return 1; } _ => { } }", "match k3() { V => { } _ => { fail; } }", "if true { fail; } print 1;",
            "let a = k0();", "if true { print 1; } else { fail; }"};
        for (String body : left) {
            House.faultAt(2, SOME + "fn main() { } fn h() -> int { " + body + " @}");
            House.taken(SOME + "fn main() { } fn l() { " + body.replace("return 1", "return").replace("return 2", "return") + " }");
        }
        // In a while nothing can be come to behind break and continue, either.
        House.taken(SOME + "fn main() { } fn h() -> int { while true { if true { break; } else { continue; } } return 1; }");
        House.taken(SOME + "fn main() { } fn h() -> int { while true { match k3() { V => { break; } W(_, _) => { continue; } _ => { return 1; } } } fail; }");
        // Of two fns each at its own }.
        House.faultAt(2, SOME + "fn main() { } fn h() -> int { fail; } fn l() -> int { @} fn o() -> int { }");
    }

    private static void ofs() {
        String[] params = {"int", "bool", "box int", "row int", "R", "& int", "&! int"};
        for (String result : new String[] {"& int", "&! int"}) {
            for (String param : params) {
                boolean lends = param.equals("&! int") || param.equals("& int") && result.equals("& int");
                String head = SOME + "fn main() { } fn h(b: &! int, a: " + param + ") -> " + result + " of b, ";
                if (lends) {
                    House.taken(head + "a { fail; }");
                } else {
                    House.faultAt(2, head + "@a { fail; }");
                }
            }
        }
        for (String result : new String[] {"int", "bool", "R", "C", "box int", "row int"}) {
            House.faultAt(2, SOME + "fn main() { } fn h(a: & int) -> " + result + " @of a { fail; }");
            House.faultAt(2, SOME + "fn main() { } fn h(a: int) -> " + result + " @of a { fail; }");
        }
        String head = SOME + "fn main() { } fn h(a: & int) -> & int of ";
        House.taken(head + "a, a { return a; }");
        House.faultAt(2, head + "@b { fail; }");
        House.faultAt(2, head + "a, @b { fail; }");
        House.faultAt(2, head + "@h { fail; }");
        House.faultAt(2, head + "@main, b { fail; }");
        // Not of another one of the name: a variable is no param.
        House.faultAt(2, head + "@c { let c = a; return c; }");
        // A result with one of both needs no of.
        House.taken(SOME + "fn main() { } fn h(a: & int) -> & int { fail; } fn l() -> &! R { fail; }");
        // What is lent may be of another type than the result.
        House.taken(SOME + "fn main() { } fn h(a: & R, b: &! C, c: &! int) -> & bool of a, b, c { return & a^.b; }");
    }

    /** What has no type breaks no rule that asks for it, in whatever stands around it. */
    private static void untyped() {
        String[] nones = {"l()", "l2(1)", "(l())", "- l()", "not l()", "l() + 1", "1 + l()", "l() == l()", "l() and true", "box(l())", "open(l())",
            "row int [l()]", "new R { a: l(), b: true }", "new C.W(1, l())", "k0a(l())", "w[l()]", "swap(i, l())", "o", "o.a", "o^", "o[0]",
            "len(o)", "pop(o)", "swap(o, 1)", "& o", "&! o", "& o.a^[0]", "u.a", "u.a.b", "& u.a"};
        String[] contexts = {"let z: bool = #;", "let z: C = #;", "let z = #;", "if # { }", "while # { }", "print #;", "i = #;", "c = #;", "push(w, #);", "push(o, #);",
            "match # { }", "match # { A => { } B(a) => { let z: int = a; let y: bool = a; } }", "g0(#);", "g1(#);", "g2(#);", "let z = row C [#];",
            "let z = new R { a: #, b: true };", "let z = new C.X(#);", "let z = box(#);", "let z = open(#);", "let z = # + 1;", "let z: C = 1 + #;",
            "let z: C = # == #;", "let z = not #;", "let z: bool = - #;", "w[#] = 1;", "let z = w[#];", "swap(c, #);", "let z: C = (#);"};
        for (String none : nones) {
            for (String context : contexts) {
                // The one fault is that there is no S, told far behind.
                String body = context.replace("#", "(" + none + ")");
                House.faultAt(2, SOME.replace("fn none", "fn k0a(a: int) -> int { fail; } fn none")
                    + "fn main() { } fn f(i: int, c: C, w: row int) { let o = l(); let u = l3(); " + body + " } fn l() -> @S { fail; } "
                    + "fn l2(a: int) -> S { fail; } fn l3() -> U { fail; } record U { a: S }");
            }
        }
    }

    /** An exp or place with a part that has no type has none: a let of any type around it is not broken. */
    private static void noneInside() {
        String[] exps = {"- (1 @+ p)", "not (i @and p)", "(i @+ p) + i", "i + (i @+ p)", "(i @== p) == p", "new R { a: i @+ p, b: true }",
            "new C.W(1, i @== p)", "box(i @+ p)", "open(box(i @+ p))", "row int [1, i @+ p]", "row @S []", "w[i @+ p]", "& w[i @+ p]",
            "&! w[i @+ p]", "pop(@i)", "len(@i)", "swap(i, @p)", "swap(w[@p], 1)", "k8(i @+ p)", "k8(@p)", "@k8()", "@k9()", "(@q)", "@q.a", "@q^",
            "@q[0]", "@q[p]", "r.@c", "r@^", "i@.a", "i@[0]", "x^@.a", "new @R { a: 1 }", "new R { a: 1, @c: 1, b: true }",
            "new R { @a: true, b: true }", "new C.@V(1)", "new C.W(@p, p)", "new @S { }", "new @S.V", "@& s", "@&! m", "&! @s^", "@none()"};
        for (String exp : exps) {
            for (String type : new String[] {"bool", "int", "C", "& R"}) {
                House.faultAt(2, within("let z: " + type + " = " + exp + ";").replace("fn none", "fn k8(a: int) -> int { fail; } fn none"));
            }
        }
    }
}
