/** FAULT 2: names, limits and types (Terms II); promise 14, size; promises 9 and 13 where they count what is limited. */
public final class RulesTest {
    public static void main(String[] args) {
        names();
        limits();
        moreLimits();
        sizes();
        parts();
        declared();
        operators();
        made();
        calls();
        places();
        moves();
        statements();
        matches();
        functions();
        untyped();
        oneTooMany();
        House.end("RulesTest");
    }

    private static void wrong(String marked) {
        House.faultAt(2, marked);
    }

    private static String main(String body) {
        return "fn main() { " + body + " }";
    }

    private static String list(String part, int from, int to) {
        StringBuilder all = new StringBuilder();
        for (int i = from; i <= to; i++) {
            all.append(i == from ? "" : ", ").append(part.replace("#", "" + i));
        }
        return all.toString();
    }

    private static String each(String part, int from, int to) {
        StringBuilder all = new StringBuilder();
        for (int i = from; i <= to; i++) {
            all.append(part.replace("#", "" + i));
        }
        return all.toString();
    }

    private static void names() {
        wrong("record A { } record @A { } fn main() { }");
        wrong("record A { } choice @A { B } fn main() { }");
        wrong("fn a() { } fn main() { } fn @a() { }");
        House.taken("record a { a: int } choice b { a, b } fn a(a: int) { } fn main() { let a = 1; print a; }");
        wrong("record A { a: int, b: int, @a: bool } fn main() { }");
        wrong("choice A { a, b, @a(int) } fn main() { }");
        wrong("fn f(a: int, @a: int) { } fn main() { }");
        wrong("fn f(a: @A) { } fn main() { }");
        wrong("fn f() -> box @A { fail; } fn main() { }");
        wrong(main("let a: @A;"));
        wrong(main("let a = row @A [];"));
        wrong(main("let a = new @A { };"));
        wrong(main("let a = new @A.B;"));
        wrong("choice A { B } fn main() { let a = new @A { }; }");
        wrong("record A { } fn main() { let a = new @A.B; }");
        wrong("choice A { B } fn main() { let a = new A.@C; }");
        wrong("record A { a: int } fn main() { let a = new A { a: 1 }; print a.@b; }");
        wrong("record A { a: int } fn main() { let a = new A { a: 1, @b: 2 }; }");
        wrong(main("@f();"));
        wrong(main("print @a;"));
        wrong(main("let a = @a;"));
        wrong(main("if true { let a = 1; } print @a;"));
        wrong(main("while true { let a = 1; } @a = 2;"));
        wrong("choice A { B(int) } fn main() { match new A.B(1) { B(b) => { print b; } } print @b; }");
        wrong("choice A { B(int), C } fn main() { match new A.B(1) { B(b) => { } C => { print @b; } } }");
        House.runs(main("let a = 1; let a = a + 1; if true { let a = a + 5; print a; } print a;"), 0, "7 2");
        House.runs("fn f(a: int) { let a = a * 2; print a; } fn main() { f(4); }", 0, "8");
        wrong("fn f() { }@");
        wrong("fn main(a: int) { }@");
        wrong("fn main() -> int { return 1; }  @");
        wrong("@");
    }

    private static void limits() {
        String most = each("record R# { } ", 1, 24);
        House.due("records", House.taken(most + main("")).it.count(0), 24);
        wrong(most + "@record R { } " + main(""));
        wrong(most + main("") + " @choice R { A }");
        House.taken("record R { " + list("f#: bool", 1, 8) + " } record S { } " + main(""));
        House.due("size", House.taken("choice C { " + list("v#", 1, 10) + " } " + main("")).it.size(0), 1);
        wrong("choice C { " + list("v#", 1, 10) + ", @v11 } " + main(""));
        // Ten fields have more than 8 cells: the record's name is broken first, whatever the eleventh is.
        wrong("record @R { " + list("f#: int", 1, 11) + " } " + main(""));
        wrong("choice C { A(" + list("int", 1, 6) + ", @int) } " + main(""));
        House.taken("choice C { A(" + list("int", 1, 6) + ") } " + main(""));
        House.taken(main("let r = row int [" + list("#", 1, 32) + "];"));
        wrong(main("let r = row int [" + list("#", 1, 32) + ", @33];"));
        wrong(main("let r = row int [" + list("#", 1, 32) + ", @(33), 34];"));
        House.due("fns", House.taken(each("fn f#() { } ", 1, 29) + main("")).it.count(1), 30);
        wrong(each("fn f#() { } ", 1, 30) + "@" + main(""));
        House.taken("fn f(" + list("a#: int", 1, 8) + ") { } " + main(""));
        wrong("fn f(" + list("a#: int", 1, 8) + ", @a9: int) { } " + main(""));
        House.due("variables", House.taken(main(each("let a#: int; ", 1, 40))).it.function(0, 0), 40);
        wrong(main(each("let a#: int; ", 1, 40) + "let @a: int;"));
        wrong("choice C { A(int, int) } fn f(p: int) { " + each("let a#: int; ", 1, 38)
            + "match new C.A(1, 2) { A(_, b) => { } } match new C.A(1, 2) { A(@c, d) => { } } } " + main(""));
    }

    private static void moreLimits() {
        String pair = "record P { a: int, b: int } ";
        House.due("leaves", House.taken(pair + main(each("let a#: P; ", 1, 30))).it.function(0, 1), 60);
        wrong(pair + main(each("let a#: P; ", 1, 30) + "let @b: int;"));
        wrong(pair + main("let c: int; " + each("let a#: P; ", 1, 29) + "let @b: P; let d: int;"));
        House.taken("record P told { a: int, b: int } " + main(each("let a#: P; ", 1, 40)));
        // A record without fields is a LEAF itself, one that has itself within too.
        House.due("leaves", House.taken("record E { } record F { e: E, f: E } " + main("let a: E; let b: F;")).it.function(0, 1), 3);
        wrong(main(each("let a#: int; ", 1, 25) + each("let b#: R; ", 1, 15)) + " record @R { a: int, b: int, c: int, d: R }");
        House.due("loans", House.taken(main("let a = 1; " + each("let b = & a; ", 1, 20) + "print b^;")).it.count(3), 20);
        String lends = "fn f(a: & int, b: & int, c: & int, d: & int, e: & int) { } fn main() { let a = 1; let b = & a; "
            + each("f(& a, & a, & a, & b^, & a); ", 1, 12) + " f(& a, b, b, & b^, b);";
        House.due("loans", House.taken(lends + " }").it.count(3), 50);
        wrong(lends + " print 1; let c = @& a; }");
        wrong(lends + " print 1; let c = @&! a; }");
        // The LOANS of each fn are counted for it alone.
        House.due("loans", House.taken(lends + " } fn g() { let a = 1; let b = & a; }").it.function(1, 3), 50);
        String places = "print a" + each("+a", 1, 399) + ";";
        House.due("places", House.taken(main("let a = 1; " + places)).it.count(2), 400);
        wrong(main("let a = 1; " + places + " print @a;"));
        wrong(main("let a = 1; " + places + " if @a { }"));
        wrong(main("let a = 1; " + places) + " fn f(b: bool) { print @b; }");
    }

    private static void sizes() {
        House house = House.taken("record A { } record B { a: int, b: bool, c: box B, d: row B } choice C { V } "
            + "choice D { V, W(int, bool), X(B, A) } record E { d: D, a: A, b: int } " + main(""));
        House.due("size A", house.it.size(0), 1);
        House.due("size B", house.it.size(1), 4);
        House.due("size C", house.it.size(2), 1);
        House.due("size D", house.it.size(3), 6);
        House.due("size E", house.it.size(4), 8);
        House.due("size of none", house.it.size(5), -1);
        House.due("size of none", house.it.size(-1), -1);
        wrong("record @A { b: B, c: int } record B { " + list("f#: int", 1, 8) + " } " + main(""));
        wrong("record B { " + list("f#: int", 1, 8) + " } choice @C { V, W(B) } " + main(""));
        wrong("choice @C { V, W(int, int), X(D, int) } choice D { V(C, int) } " + main(""));
        wrong("record @A { a: A } " + main(""));
        wrong("record A { } record @B { a: A, c: C } choice C { V, W(D) } record D { b: B } " + main(""));
        // E has such a one within.
        wrong("record @E { b: B } record B { b: B } " + main(""));
        House.taken("record A { a: box A, b: row A } choice C { V, W(box C, row A) } " + main(""));
        // What has no type has no cells.
        wrong("record A { " + list("f#: int", 1, 8) + ", x: @X } " + main(""));
        wrong("record A { " + list("f#: int", 1, 8) + ", x: @& int } " + main(""));
    }

    private static void parts() {
        // R1 has 2 PARTS, and each one behind it one more.
        String chain = "record R1 { a: int } ";
        for (int i = 2; i <= 15; i++) {
            chain += "record R" + i + " { a: R" + (i - 1) + " } ";
        }
        House.taken(chain + main(""));
        wrong(chain + "record @R { a: R15 } " + main(""));
        wrong(chain + "choice @C { V, W(R15) } " + main(""));
        House.taken(chain + "choice C { V(bool), W(R14) } record B { a: box R15, b: row R15 } " + main(""));
        wrong(chain + "choice @C { V(int), W(R13, int, int), X(int) } " + main(""));
        House.taken(chain + "choice C { V(int), W(R13, int), X(R14) } " + main(""));
        House.taken("record O { } " + "record P { a: O, b: O, c: O, d: O, e: O, f: O, g: O, h: O } " + main(""));
        wrong("record O { } record Q { a: O } record @P { a: Q, b: Q, c: Q, d: Q, e: Q, f: Q, g: Q, h: Q } " + main(""));
        House.taken("record O { } record Q { a: O } record P { a: Q, b: Q, c: Q, d: Q, e: Q } " + main(""));
    }

    private static void declared() {
        wrong("record A { a: @& int } " + main(""));
        wrong("record A { a: @&! int } " + main(""));
        wrong("choice A { B(int, @& int) } " + main(""));
        wrong("record A { a: box @& int } " + main(""));
        wrong("fn f(a: row @&! int) { } " + main(""));
        wrong("fn f(a: & @& int) { } " + main(""));
        wrong("fn f(a: &! @&! int) { } " + main(""));
        wrong("fn f(a: & box @& int) { } " + main(""));
        House.taken("fn f(a: & row box int, b: &! box row bool) { } " + main(""));
        wrong(main("let a: box @& int;"));
        wrong(main("let a = row @& int [];"));
        wrong("record @A told { } " + main(""));
        wrong("record @A told { a: bool, b: int } " + main(""));
        wrong("record A told { a: @X, b: int } " + main(""));
    }

    private static void operators() {
        for (String sign : new String[] {"+", "-", "*", "/", "%"}) {
            wrong(main("print 1 @" + sign + " true;"));
            wrong(main("print true @" + sign + " 1;"));
            House.taken(main("let a: int = 1 " + sign + " 2;"));
        }
        for (String sign : new String[] {"<", "<=", ">", ">="}) {
            wrong(main("print 1 @" + sign + " true;"));
            wrong(main("print true @" + sign + " false;"));
            House.taken(main("let a: bool = 1 " + sign + " 2;"));
        }
        for (String sign : new String[] {"==", "!="}) {
            wrong(main("print 1 @" + sign + " true;"));
            wrong("record R { } fn main() { print new R { } @" + sign + " new R { }; }");
            House.taken(main("let a: bool = 1 " + sign + " 2 and true " + sign + " false;"));
        }
        for (String word : new String[] {"and", "or"}) {
            wrong(main("print 1 @" + word + " true;"));
            wrong(main("print true @" + word + " 1;"));
        }
        wrong(main("print @not 1;"));
        wrong(main("print @- true;"));
        wrong(main("print - @- true;"));
        wrong(main("print 1 + 2 @+ true + 3 + false;"));
        wrong(main("if @1 + 2 { }"));
        wrong(main("if @(1 + 2) { }"));
        wrong(main("let @a: int = true;"));
    }

    private static void made() {
        String some = "record R { a: int, b: bool } choice C { V, W(int, bool) } ";
        House.taken(some + main("let r = new R { b: true, a: 1 }; let c = new C.V; let d = new C.W(1, true);"));
        wrong(some + main("let r = new R { a: 1, @b: 2 };"));
        wrong(some + main("let r = new R { a: 1, @a: 1, b: true };"));
        wrong(some + main("let r = new @R { a: 1 };"));
        wrong(some + main("let r = new @R { };"));
        wrong(some + main("let r = new @R { a: true };"));
        wrong(some + main("let r = new C.@V(1);"));
        wrong(some + main("let r = new C.@W;"));
        wrong(some + main("let r = new C.@W(true);"));
        wrong(some + main("let r = new C.W(1, @2);"));
        wrong(some + main("let r = new C.W(@true, 2);"));
        wrong(some + main("let a = 1; let b = & a; let r = box(@b);"));
        wrong(main("let a = open(@1);"));
        wrong(main("let a = row int [1, @true];"));
        wrong(main("let a = row bool [@(1), true];"));
        House.runs(main("let a = open(box(open(box(7)))); print a;"), 0, "7");
        wrong(main("let a = 1; print len(@a);"));
        wrong(main("let a = 1; print pop(@a);"));
        wrong(main("let a = row int []; print @not pop(a);"));
        wrong(main("let a = 1; print swap(a, @true);"));
        wrong(main("let a = 1; let b = & a; @swap(b, & a);"));
        wrong(main("let a = 1; let b = & a; @swap(b, 1);"));
        House.runs(main("let a = 1; print swap(a, 2); print a;"), 0, "1 2");
    }

    private static void calls() {
        String some = "fn f(a: int, b: bool) -> int { return a; } fn g() { } ";
        House.taken(some + main("f(1, true); g(); print f(1, false);"));
        wrong(some + main("@f(1);"));
        wrong(some + main("@f(1, true, 2);"));
        wrong(some + main("@f(true);"));
        wrong(some + main("f(1, @2);"));
        wrong(some + main("f(@g(), true);"));
        wrong(some + main("print @g();"));
        wrong(some + main("let a = 1 + @g();"));
        wrong(some + main("let a = f(1, true) == 1; let @b: int = a;"));
        wrong(some + main("@return g();"));
        wrong(some + main("let a = @g();"));
    }

    private static void places() {
        String some = "record R { a: int, b: box R, c: row R } ";
        House.taken(some + "fn f(r: & R, s: &! R) { print r^.a; print r^.b^.c[1].a; s^.c[0].b^.a = r^.a; } " + main(""));
        wrong(some + "fn f(r: & R) { print r@.a; } " + main(""));
        wrong(some + "fn f(r: R) { print r@^; } " + main(""));
        wrong(some + "fn f(r: R) { print r.a@.a; } " + main(""));
        wrong(some + "fn f(r: R) { print r.c@.a; } " + main(""));
        wrong(some + "fn f(r: R) { print r.b@[0].a; } " + main(""));
        wrong(some + "fn f(r: R) { print r.c[@true].a; } " + main(""));
        wrong(some + "fn f(r: R) { print r@[true]; } " + main(""));
        wrong(some + "fn f(r: R) { let a = & r; let b = @& a; } " + main(""));
        wrong(some + "fn f(r: R) { let a = & r; let b = @&! a; } " + main(""));
        House.taken(some + "fn f(r: & R) { let a = & r^; let b = & r^.c[0].b^; print len(r^.c); } " + main(""));
        wrong(some + "fn f(r: & R) { @r^.a = 1; } " + main(""));
        wrong(some + "fn f(r: & R) { let a = &! @r^.a; } " + main(""));
        wrong(some + "fn f(r: & R) { push(@r^.c, true); } " + main(""));
        wrong(some + "fn f(r: & R) { pop(@r^.c); } " + main(""));
        wrong(some + "fn f(r: & R) { swap(@r^.a, 1); } " + main(""));
        wrong(some + "fn f(r: & R) { let a = @r^.b; } " + main(""));
        House.taken(some + "fn f(r: &! R, q: R) { r^.a = 1; let a = &! r^.a; push(r^.c, q); pop(r^.c); swap(a^, 1); } " + main(""));
        House.taken("fn f(r: & int, s: & int) { r = s; } " + main(""));
    }

    private static void moves() {
        String some = "record T told { n: int, b: box int } record R { t: T, b: box int } record Q { r: R } ";
        House.taken(some + "fn f(q: Q) { let a = q.r.t; let b = q.r.b; } " + main(""));
        wrong(some + "fn f(q: Q) { let b = @q.r.t.b; } " + main(""));
        House.taken(some + "fn f(q: Q) { print q.r.t.n; print q.r.t.b^; } " + main(""));
        wrong(some + "fn f(q: box Q) { let b = @q^; } " + main(""));
        wrong(some + "fn f(q: box Q) { let b = @q^.r; } " + main(""));
        wrong(some + "fn f(q: row Q) { let b = @q[0]; } " + main(""));
        wrong(some + "fn f(q: &! Q) { let b = @q^; } " + main(""));
        House.taken("fn f(a: &! int, b: & int) { let c = a; let d = b; let e = b; } " + main(""));
        wrong("choice C { A(box C) } fn f(c: &! C) { match @c^ { A(b) => { } } } " + main(""));
    }

    private static void statements() {
        wrong(main("let @a;"));
        House.taken(main("let a: int; let b = 1; let c: int = 1;"));
        wrong(main("let @a: bool = 1 + 1;"));
        wrong(main("let a = 1; a = @true;"));
        wrong(main("let a = row int []; push(a, @true);"));
        wrong(main("let a = 1; push(@a, 1);"));
        wrong(main("if @1 { }"));
        wrong(main("if true { } else if @1 { }"));
        wrong(main("while @1 { }"));
        wrong(main("print @row int [];"));
        wrong("record R { } " + main("print @(new R { });"));
        wrong(main("@break;"));
        wrong(main("if true { @continue; }"));
        wrong(main("while true { } @break;"));
        House.taken(main("while true { if true { break; } else { continue; } }"));
        wrong(main("@return 1;"));
        wrong("fn f() -> int { @return; } " + main(""));
        wrong("fn f() -> int { @return true; } " + main(""));
        House.taken("fn f() -> int { return 1; } " + main("return;"));
    }

    private static void matches() {
        String some = "choice C { A, B(int), D(int, bool) } ";
        House.taken(some + main("match new C.A { A => { } B(b) => { print b; } D(c, d) => { print c; print d; } }"));
        House.taken(some + main("match new C.A { D(_, d) => { print d; } _ => { } }"));
        wrong(some + main("match @1 { }"));
        wrong(some + main("match @box(new C.A) { A => { } }"));
        wrong(some + main("match new C.A { A => { } B(b) => { } @E => { } _ => { } }"));
        wrong(some + main("match new C.A { A => { } @A => { } _ => { } }"));
        wrong(some + main("match new C.A { A => { } _ => { } @B(b) => { } }"));
        wrong(some + main("match new C.A { A => { } _ => { } @_ => { } }"));
        wrong(some + main("@match new C.A { A => { } D(c, d) => { } }"));
        wrong(some + main("@match new C.A { }"));
        wrong(some + main("match new C.A { @B => { } _ => { } }"));
        wrong(some + main("match new C.A { @D(b) => { } _ => { } }"));
        wrong(some + main("match new C.A { @A(b) => { } _ => { } }"));
        wrong(some + main("match new C.A { D(b, @b) => { } _ => { } }"));
        House.taken(some + main("match new C.A { D(_, _) => { } _ => { } }"));
        wrong(some + main("match new C.A { D(b, c) => { let @a: int = c; } _ => { } }"));
        House.runs(some + "fn f(c: & C) { match c { B(b) => { let a: & int = b; print b^; } _ => { } } } "
            + main("let c = new C.B(3); f(& c); match &! c { B(b) => { let a: &! int = b; a^ = 4; } _ => { } } f(& c);"), 0, "3 4");
        wrong(some + "fn f(c: & C) { match c { B(b) => { let @a: &! int = b; } _ => { } } } " + main(""));
        wrong(some + "fn f(c: & C) { match c { B(b) => { @b^ = 1; } _ => { } } } " + main(""));
    }

    private static void functions() {
        House.taken("fn f(a: & int, b: &! int) -> & int of a, b { if true { return a; } return & b^; } " + main(""));
        wrong("fn f(a: int, b: & int) -> & int of @a { return b; } " + main(""));
        wrong("fn f(b: & int) -> & int of b, @a { return b; } " + main(""));
        wrong("fn f(a: &! int, b: & int) -> &! int of a, @b { return a; } " + main(""));
        wrong("fn f(b: & int) -> int @of b { return b^; } " + main(""));
        House.taken("fn f(b: & int) -> & int of b, b { return b; } " + main(""));
        wrong("fn f() -> int { @} " + main(""));
        wrong("fn f() -> int { print 1; @} " + main(""));
        wrong("fn f() -> int { while true { return 1; } @} " + main(""));
        wrong("fn f() -> int { if true { return 1; } @} " + main(""));
        wrong("fn f() -> int { if true { return 1; } else if false { fail; } @} " + main(""));
        House.taken("fn f() -> int { if true { return 1; } else if false { fail; } else { return 2; } } " + main(""));
        House.taken("fn f() -> int { fail; print 1; } " + main(""));
        String some = "choice C { A, B } ";
        House.taken(some + "fn f(c: C) -> int { match c { A => { return 1; } B => { fail; } } } " + main(""));
        wrong(some + "fn f(c: C) -> int { match c { A => { return 1; } B => { } } @} " + main(""));
        House.taken(some + "fn f(c: C) -> int { while true { if true { break; } else { continue; } } return 1; } " + main(""));
        House.taken("fn f() { } " + main(""));
    }

    private static void untyped() {
        // What has no type breaks no rule that asks for it, though that one's place were ahead.
        wrong(main("let a: bool = 1 + (true @+ 1);"));
        wrong(main("let a: bool = f(@b);") + " fn f(a: int) -> int { return a; }");
        wrong("record R { a: int } fn main() { let r = new R { a: @b }; }");
        wrong(main("f(1, true);") + " fn f(a: @X, b: bool) { }");
        wrong(main("let a: bool = f();") + " fn f() -> @X { fail; }");
        wrong(main("let a = f(); print a;") + " fn f() -> @X { fail; }");
        wrong("record R { x: @X } fn main() { }");
        wrong("fn main() { let r: R; print r.x; r.x = 1; } record R { x: @X }");
        wrong("fn main() { match f() { A => { } } } fn f() -> @X { fail; }");
        wrong("fn main() { let a = 1 + @b + true; }");
        wrong("fn main() { let a = true @+ b; }");
        wrong("fn main() { let a = row int [@b, true]; }");
        wrong("fn f(a: @X) -> & int of a { fail; } fn main() { }");
        wrong("fn f(a: & int) -> @X of a { fail; } fn main() { }");
        wrong(main("let a: bool = f();") + " fn f() -> box @X { fail; }");
        // A record whose only field has no type has no cells.
        wrong("record R { s: S, " + list("f#: int", 1, 8) + " } record S { x: @X } " + main(""));
        // The second field and the second param of a name have no type.
        wrong("record R { " + list("f#: int", 1, 8) + ", @f1: int } " + main(""));
        wrong(main("f(1, true);") + " fn f(a: int, @a: int) { }");
    }

    private static void oneTooMany() {
        // What is one too many has no type, so no rule ahead of it is broken by it.
        String lends = "fn g(a: & int) { } fn h(a: &! int) { } fn main() { let a = 1; let b = & a; "
            + each("g(& a); ", 1, 49);
        House.taken(lends + "let c: & int = & b^; }");
        wrong(lends + "let @c: int = & b^; }");
        wrong(lends + "let c: int = @& a; }");
        wrong(lends + "let c: int = @&! a; }");
        wrong(lends + "let c: & bool = @& a; }");
        wrong(lends + "g(@&! a); }");
        wrong(lends + "h(@& a); }");
        wrong(lends + "print @& a; }");
        wrong(lends + "match @& a { A => { } } }");
        wrong(lends + "let c: bool = box(@& a); }");
        wrong(lends + "let c: bool = f(@& a); } fn f(a: & int) -> int { return a^; }");
        wrong(lends + "let c = @& b; }");
        wrong(lends + "@return & a; }");
        wrong(lends + "} fn f() -> int { let a = 1; " + each("g(& a); ", 1, 50) + "return @& a; }");
        wrong(main("let a: int = row int [" + list("#", 1, 32) + ", @33];"));
        String places = "print a" + each("+a", 1, 399) + ";";
        wrong(main("let a = 1; " + places + " let b: bool = @a;"));
        wrong(main("let a = 1; " + places + " let b: bool = & @a;"));
        wrong("choice C { A(" + list("int", 1, 6) + ", @P) } record P { a: int, b: int } " + main(""));
        wrong(main("let c = new C.A(" + list("#", 1, 6) + ", true);") + " choice C { A(" + list("int", 1, 6) + ", @int) }");
        wrong(main("f(" + list("#", 1, 8) + ", true);") + " fn f(" + list("a#: int", 1, 8) + ", @a9: int) { }");
    }
}
