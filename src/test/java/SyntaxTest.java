/** FAULT 1: tokens, grammar, and what is open in one another (Terms I). */
public final class SyntaxTest {
    public static void main(String[] args) {
        tokens();
        items();
        statements();
        exps();
        open();
        House.end("SyntaxTest");
    }

    private static void wrong(String marked) {
        House.faultAt(1, marked);
    }

    private static String main(String body) {
        return "fn main() { " + body + " }";
    }

    private static String times(String part, int times) {
        return part.repeat(times);
    }

    private static void tokens() {
        House.taken("fn main(){}");
        House.taken("\t\r\nfn main ( )\n{ } # anything: $ @ ! ~ \r still");
        House.taken("# ahead\nfn#between\nmain(){}");
        House.taken(main("let a123456789abcdef = 1; print a123456789abcdef;"));
        wrong(main("let @a123456789abcdefg = 1;"));
        House.taken(main("print 9223372036854775807; print 000000000000000000000000000001;"));
        wrong(main("print @9223372036854775808;"));
        wrong(main("print @99999999999999999999999999;"));
        wrong(main("print @1a;"));
        wrong(main("print 1@_;"));
        wrong(main("let @_a = 1;"));
        wrong(main("print 1 @! 2;"));
        wrong(main("print 1 @? 2;"));
        wrong(main("let a = 1; print 0@->1;"));
        wrong(main("let @let = 1;"));
        wrong(main("let @true = 1;"));
        wrong("fn main() { } @!");
        wrong("fn main() { } @\u0001");
        wrong("fn main() { } # told @\u0001 here");
        wrong("fn main() { } # told @\u007f here");
        wrong("fn main() { } # told @\u00e9 here");
        wrong("fn main() { @\u000b }");
        // The first fault counts.
        wrong("fn main() { @) \u0001 }");
    }

    private static void items() {
        House.fault("", 2, 0, -1);
        House.fault("   ", 2, 3, -1);
        House.taken("record R { } choice C { A } fn main() { }");
        House.taken("record R told { a: int, b: box row bool } choice C { A, B(int, R), D(C2) } choice C2 { A } fn main() { }");
        wrong("@x");
        wrong("record @told { a: int } fn main() { }");
        wrong("record R told @told { a: int } fn main() { }");
        wrong("record R { a: int, @} fn main() { }");
        wrong("record R { a @int } fn main() { }");
        wrong("choice C { @} fn main() { }");
        wrong("choice C { A(@) } fn main() { }");
        wrong("choice C { A(int, @) } fn main() { }");
        wrong("fn main(@,) { }");
        wrong("fn main() -> @{ }");
        wrong("fn f(a: & int) -> & int of @{ } fn main() { }");
        wrong("fn f(a: & int) -> & int of a, @{ } fn main() { }");
        wrong("fn f(a: & int) @of a { } fn main() { }");
        wrong("fn main() { @");
        wrong("fn main() {  @");
        wrong("fn main() { } @}");
        wrong("fn main() @; { }");
    }

    private static void statements() {
        House.taken(main("let a: int; a = 1; let b = 2; let c: int = a; print a + b + c;"));
        House.taken(main("if true { } else if false { } else { } while false { break; continue; } return;"));
        wrong(main("let a @1;"));
        wrong(main("let a: @= 1;"));
        wrong(main("let a = @;"));
        wrong("fn main() { let a = 1 @}");
        wrong(main("a@;"));
        wrong(main("a.b @+ 1;"));
        wrong(main("f() @+ 1;"));
        wrong(main("f()@.a;"));
        wrong(main("f() @= 1;"));
        wrong(main("@1;"));
        wrong(main("@(a) = 1;"));
        wrong(main("pop(a) @= 1;"));
        wrong(main("pop(@1);"));
        wrong(main("push(a@);"));
        wrong(main("swap(a, b@, c);"));
        wrong(main("@len(a);"));
        wrong(main("@open(a);"));
        wrong(main("@new R { };"));
        wrong(main("if true @print 1;"));
        wrong(main("@else { }"));
        wrong(main("if true { } else @while true { }"));
        wrong(main("break @1;"));
        wrong(main("fail @1;"));
        wrong(main("print @;"));
        wrong(main("match a { A @{ } }"));
        wrong(main("match a { A(@) => { } }"));
        wrong(main("match a { _@( b) => { } }"));
        wrong(main("match a { A(b,@) => { } }"));
        wrong(main("match a { A(@1) => { } }"));
        wrong(main("match a { A => @print 1; }"));
        wrong(main("@{ }"));
        wrong(main("@fn a() { }"));
    }

    private static void exps() {
        House.taken(main("print 1 + 2 * 3 - 4 / 5 % 6; print not not true == false; print - - 1 < -2 and true or false;"));
        wrong(main("print 1 < 2 @< 3;"));
        wrong(main("print 1 == 2 @!= 3;"));
        House.taken(main("print (1 < 2) == (2 < 3);"));
        wrong(main("print 1 + @;"));
        wrong(main("print 1 + not @;"));
        wrong(main("print (1@;"));
        wrong(main("print (1 @2);"));
        wrong(main("print @* 2;"));
        wrong(main("print a.@1;"));
        wrong(main("print a[1@;"));
        wrong(main("print a[@];"));
        wrong(main("print a(1)@(2);"));
        wrong(main("let a = & @1;"));
        wrong(main("let a = & @& b;"));
        wrong(main("let a = &! f@(1);"));
        wrong(main("let a = new R@;"));
        wrong(main("let a = new R { b @};"));
        wrong(main("let a = new R { b: 1, @};"));
        wrong(main("let a = new C.@;"));
        wrong(main("let a = new C.A(@);"));
        wrong(main("let a = new C.A(1,@);"));
        wrong(main("let a = box @1;"));
        wrong(main("let a = box(@);"));
        wrong(main("let a = row @[];"));
        wrong(main("let a = row int @;"));
        wrong(main("let a = row int [1,@];"));
        wrong(main("let a = len(@);"));
        wrong(main("let a = f(1,@);"));
        wrong(main("let a = read@();"));
    }

    private static void open() {
        // main's { is one already.
        House.taken(main("print " + times("(", 15) + "1" + times(")", 15) + ";"));
        wrong(main("print " + times("(", 15) + "@(1" + times(")", 16) + ";"));
        House.taken(main("print " + times("- ", 15) + "1;"));
        wrong(main("print " + times("- ", 15) + "@- 1;"));
        wrong(main("print " + times("not ", 15) + "@not true;"));
        House.taken(main("print " + times("-(", 7) + "-1" + times(")", 7) + ";"));
        // What is behind a sign ahead is over with its operand.
        House.taken(main("print -1" + times(" + -1", 30) + ";"));
        House.taken(main("let a: " + times("box ", 15) + "int;"));
        wrong(main("let a: " + times("box ", 15) + "@box int;"));
        wrong(main("let a: " + times("box ", 15) + "@row int;"));
        wrong("fn main(a: " + times("box ", 15) + "@& int) { }");
        wrong("fn main(a: " + times("box ", 15) + "@&! int) { }");
        House.taken("record R { a: " + times("box ", 15) + "int } fn main() { }");
        wrong("record R { a: " + times("box ", 15) + "@box int } fn main() { }");
        House.fault("choice C { A(" + times("box ", 14) + "int) } fn main() { }", 0, -1, -1);
        wrong("choice C { A(" + times("box ", 14) + "@box int) } fn main() { }");
        House.taken(main(times("if true { ", 15) + times("} ", 15)));
        wrong(main(times("if true { ", 15) + "if true @{ } " + times("} ", 15)));
        // The ifs behind else stay open; the block of the last one is one more.
        House.taken(main("if true { }" + times(" else if true { }", 14)));
        wrong(main("if true { }" + times(" else if true { }", 14) + " else if true @{ }"));
        House.taken(main("if true { }" + times(" else if true { }", 14) + " else { }"));
        wrong(main(times("while true { ", 14) + "if true { } else if true @{ }" + times(" }", 14)));
        wrong(main(times("while true { ", 15) + "if true @{ }" + times(" }", 15)));
        // A row of an exp is no row of a type, and & ahead of a place counts for nothing.
        House.taken(main("let a = row " + times("box ", 15) + "int [];"));
        wrong(main("let a = row " + times("box ", 15) + "@box int [];"));
        House.taken(main("let a = row int [" + times("(", 14) + "1" + times(")", 14) + "];"));
        wrong(main("let a = row int [" + times("(", 14) + "@(1" + times(")", 15) + "];"));
        House.taken(main("let b = 1; let a = & b; print " + times("(", 15) + "a^" + times(")", 15) + ";"));
        wrong(main("print a" + times("[a", 15) + "@[1" + times("]", 16) + ";"));
        wrong(main("print " + times("f(", 15) + "@(1" + times(")", 16) + ";"));
    }
}
