/** Terms I at their edges: each byte, words, numbers, signs, what may be left out, the text's end, the 17th that is open. */
public final class TokenEdgesTest {
    private static final String[] NO_NAMES = ("record choice told fn of let if else while break continue return match print fail "
        + "read new box row open len push pop swap int bool true false and or not").split(" ");

    public static void main(String[] args) {
        bytes();
        comments();
        words();
        noNames();
        numbers();
        signs();
        signsApart();
        ends();
        leftOut();
        lists();
        seventeenth();
        seventeenthBlocks();
        seventeenthTypes();
        closed();
        House.end("TokenEdgesTest");
    }

    private static void wrong(String marked) {
        House.faultAt(1, marked);
    }

    private static String main(String body) {
        return "fn main() { " + body + " }";
    }

    private static boolean blank(int sign) {
        return sign == 9 || sign == 10 || sign == 13 || sign == 32;
    }

    private static boolean inTexts(int sign) {
        return blank(sign) || sign > 32 && sign <= 126;
    }

    private static boolean inWords(int sign) {
        return sign >= 'a' && sign <= 'z' || sign >= 'A' && sign <= 'Z' || sign >= '0' && sign <= '9' || sign == '_';
    }

    private static boolean letter(int sign) {
        return inWords(sign) && sign != '_' && !(sign >= '0' && sign <= '9');
    }

    /** TEXTS are bytes 9, 10, 13, 32 .. 126 (others are SYNTAX at them). BLANKS: 9, 10, 13, 32. */
    private static void bytes() {
        for (int sign = 0; sign < 256; sign++) {
            char put = (char) sign;
            String told = "fn main() { } # told " + put;
            House.fault(told, inTexts(sign) ? 0 : 1, inTexts(sign) ? -1 : told.length() - 1, -1);
            // The byte ahead of what closes the block: a name and a } go on with what is behind them.
            String inside = "fn main() {" + put + "}";
            int place = letter(sign) || sign == '}' ? 12 : sign == '#' ? 13 : 11;
            House.fault(inside, blank(sign) ? 0 : 1, blank(sign) ? -1 : place, -1);
            String between = "fn" + put + "main() { }";
            place = inWords(sign) ? 0 : sign == '#' ? between.length() : 2;
            House.fault(between, blank(sign) ? 0 : 1, blank(sign) ? -1 : place, -1);
        }
    }

    /** A COMMENT: # up to 10 or the end. */
    private static void comments() {
        House.fault("#", 2, 1, -1);
        House.fault("# fn main() { }", 2, 15, -1);
        House.fault("#\rfn main() { }", 2, 15, -1);
        House.taken("#\nfn main() { }");
        House.taken("fn main() { } #");
        House.taken("fn main() { } ## # \n");
        wrong("fn main() { } # told\n@x");
        wrong("fn main() { # }@");
        wrong("fn main() { # }\n@");
        House.taken("fn main() { # }\n}");
        House.taken("fn#\n#\n \t#x\nmain#\n(#\n)#\n{#\n}#\n");
        House.runs(main("print 1#2\n+#3\n1;"), 0, "2");
        House.runs(main("let a = 4; print a#b\n;"), 0, "4");
        wrong("#@\u0000");
        wrong("# told @\u001f\nfn main() { }");
        wrong("# told \u007e@\u007f\nfn main() { }");
    }

    /** WORDS: a letter A .. Z a .. z, then letters, digits, _, at most 16 signs. */
    private static void words() {
        for (char sign = 1; sign < 127; sign++) {
            if (letter(sign)) {
                House.runs(main("let " + sign + " = 1; print " + sign + ";"), 0, "1");
            }
            if (inWords(sign)) {
                House.runs(main("let a" + sign + " = 2; print a" + sign + ";"), 0, "2");
            }
        }
        wrong(main("let @_ = 1;"));
        wrong(main("let @1 = 1;"));
        wrong(main("let @_1 = 1;"));
        // One below the most, the most, and one more.
        for (String word : new String[] {"abcdefghijklmno", "a_Z9", "ABCDEFGHIJKLMNO", "a______________", "a00000000000000"}) {
            String full = (word + "___________").substring(0, 15);
            House.runs(main("let " + full + " = 1; print " + full + ";"), 0, "1");
            House.runs(main("let " + full + "x = 1; print " + full + "x;"), 0, "1");
            wrong(main("let @" + full + "xy = 1;"));
            wrong(main("print 1 + @" + full + "xy;"));
        }
        String most = "a234567890123456";
        House.taken("record " + most + " { " + most + ": int } fn " + most + "(" + most + ": " + most + ") { } fn main() { }");
        wrong("record @" + most + "7 { }");
        wrong("fn main() { } fn f(@" + most + "7: int) { }");
        wrong("@" + most + "7");
        wrong("fn main() { @recordrecordrecor = 1; }");
        wrong("fn main() { } @" + most.repeat(20));
        // Of 16 signs all count, and great and small letters are unlike.
        House.runs(main("let a234567890123456 = 1; let a234567890123457 = 2; let A234567890123456 = 3; print a234567890123456; "
            + "print a234567890123457; print A234567890123456;"), 0, "1 2 3");
        House.taken("record A { } record a { } fn A() { } fn a() { } fn main() { }");
        House.fault("fn Main() { } fn MAIN() { }", 2, 27, -1);
    }

    /** Of the WORDS these are no names; all others are, also those that begin with them. */
    private static void noNames() {
        House.due("no names", NO_NAMES.length, 31);
        for (String word : NO_NAMES) {
            wrong(main("let @" + word + " = 1;"));
            wrong("record @" + word + " { } fn main() { }");
            wrong("record R { @" + word + ": int } fn main() { }");
            wrong("choice @" + word + " { A } fn main() { }");
            wrong("choice C { @" + word + " } fn main() { }");
            wrong("fn main() { } fn @" + word + "() { }");
            wrong("fn main() { } fn f(@" + word + ": int) { }");
            wrong(main("let a = 1; print a.@" + word + ";"));
            for (String name : new String[] {word + "1", word + "_", word + "s", word.toUpperCase(), word.substring(1)}) {
                if (!name.equals("f") || !word.equals("if")) {
                    House.runs(main("let " + name + " = 5; print " + name + ";"), 0, "5");
                }
            }
        }
        House.runs("fn f(main: int) { print main; } fn main() { let main = 3; f(main); }", 0, "3");
    }

    /** NUMBERS: digits, below 2^63, no letter behind. */
    private static void numbers() {
        House.runs(main("print 0; print 00; print 9; print 10;"), 0, "0 0 9 10");
        House.runs(main("print 9223372036854775806; print 9223372036854775807; print 0009223372036854775807;"), 0,
            "9223372036854775806 9223372036854775807 9223372036854775807");
        for (String beyond : new String[] {"9223372036854775808", "9223372036854775809", "9223372036854775810", "9223372036854775817",
            "09223372036854775808", "9999999999999999999", "10000000000000000000", "18446744073709551615", "18446744073709551616",
            "18446744073709551617", "92233720368547758070", "36893488147419103233", "1" + "0".repeat(40)}) {
            wrong(main("print @" + beyond + ";"));
            wrong(main("print 1 + -@" + beyond + ";"));
        }
        House.runs(main("print " + "0".repeat(100) + "7;"), 0, "7");
        for (String behind : new String[] {"a", "z", "A", "Z", "e1", "x10", "and"}) {
            wrong(main("print @1" + behind + ";"));
            wrong(main("print @9223372036854775807" + behind + ";"));
        }
        wrong(main("print 1@_;"));
        wrong(main("print 1 @2;"));
        wrong(main("print 1@.5;"));
        House.runs(main("if 1==1{print 1;}"), 0, "1");
    }

    /** SIGNS, as long as they can be. */
    private static void signs() {
        House.runs("choice C{A,B(int,int)}fn f(a:&int,b:&!int)->int{b^=a^;return a^+b^;}fn main(){let a=1;let b=-2;print f(&a,&!b);"
            + "let r=row int[1,2];print r[0]*r[1]/1%2;match new C.B(3,4){A=>{}B(_,c)=>{print c;}}print 1<2;print 1>2;print 1<=1;print 1>=2;"
            + "print 1!=1;print 1==1;print 2--1;print 2-- -1;let d=box(5);print d^;}", 0, "2 0 4 1 0 1 0 0 1 3 1 5");
        // Two that stand together are not one where one is longer.
        wrong(main("let a = 1; let b = 0@->a;"));
        wrong(main("let a = 1; a @=> 1;"));
        wrong(main("let a = 1; a @== 1;"));
        wrong(main("let a = 1; print a <=@= 1;"));
        wrong(main("let a = 1; print a ==@= 1;"));
        wrong(main("let a = 1; print a @= 1;"));
        wrong(main("let a = 1; let b = &!@= a;"));
        wrong(main("let a = 1; let b = &@== a;"));
        wrong(main("let a = 1; print a >=@> 1;"));
        wrong(main("let a = 1; print a <@< 1;"));
        House.runs(main("let a = 1; print a<-1;"), 0, "0");
        wrong("fn f() @--> int { fail; } fn main() { }");
    }

    private static void signsApart() {
        wrong("fn f() @- > int { fail; } fn main() { }");
        wrong("choice C { A } fn main() { match new C.A { A @= > { } } }");
        wrong(main("let a = 1; print a < @= 1;"));
        wrong(main("let a = 1; print a > @= 1;"));
        wrong(main("let a = 1; print a @= = 1;"));
        wrong(main("let a = 1; print a @! = 1;"));
        wrong(main("let a = 1; let b = & @! a;"));
        wrong(main("let a: & @! int;"));
        wrong(main("print 1 @& 2;"));
        wrong(main("print 1 @| 2;"));
        wrong(main("print @!true;"));
        wrong(main("print @\"a\";"));
        wrong(main("print @'a';"));
        wrong(main("print 1 @? 2;"));
        wrong(main("print 1@\\2;"));
        wrong(main("print 1 @~ 2;"));
        wrong(main("print 1 @` 2;"));
        // A sign at the text's end is not what would be longer.
        wrong("fn f() @-");
        wrong("fn f() ->@");
        wrong("fn main() { let a = &@");
        wrong("fn main() { let a = &!@");
        wrong("fn main() { print 1 <@");
        wrong("fn main() { print 1 @!");
        wrong("fn main() { print 1 @=");
    }

    /** .. or the end: of a text that is not whole the end is the place, wherever it is cut. */
    private static void ends() {
        String text = "fn main() { let ab: box int = box(1 + 2 * (3)); if (true) { print ab^; } else { fail; } }";
        for (int n = 1; n < text.length(); n++) {
            House house = new House();
            house.feed(text);
            House.due("judge of " + n, house.it.judge(n), 1);
            // Of fn an f is left, a name, with which no text begins.
            House.due("place of " + n, house.it.fault(1), n == 1 ? 0 : n);
        }
        House house = new House();
        house.feed(text);
        House.due("judge of nothing", house.it.judge(0), 2);
        House.due("place of nothing", house.it.fault(1), 0);
        house.feed(text);
        House.due("judge of all", house.it.judge(text.length()), 0);
        // Blanks and comments at the end are behind the last token: the end is behind them.
        House.fault("fn main() { \n\t ", 1, 15, -1);
        House.fault("fn main() { # }", 1, 15, -1);
        House.fault("fn f() { } \n", 2, 12, -1);
        House.fault("fn f() { } # told", 2, 17, -1);
        // A byte that no text holds, a word or a number that is none: the first of all counts.
        wrong("fn main() { print @1a \u0001 abcdefghijklmnopq }");
        wrong("fn main() { print @\u0001 1a }");
        wrong("fn main() { print @abcdefghijklmnopq \u0001 }");
        wrong("fn main() { @) # \u0001 }");
        wrong("fn main() { print 1 # @\u0001 } \n )");
    }

    private static void leftOut() {
        House.taken("record R { } record S told { a: int } choice C { A, B } fn f() { } fn g(a: int) -> int { return a; } "
            + "fn h(a: & int, b: & int) -> & int of a, b { return a; } fn main() { }");
        House.taken("fn main() { let a: int; let b = 1; let c: int = 1; return; }");
        House.taken("record R { } choice C { A } fn main() { let a = new R { }; let b = new C.A; let c = row int []; match b { A => { } } }");
        wrong("choice C { @} fn main() { }");
        wrong("record R @told2 { } fn main() { }");
        wrong("record R told @of { a: int } fn main() { }");
        wrong("choice C @told { A } fn main() { }");
        wrong("fn f @{ } fn main() { }");
        wrong("fn f() @int { } fn main() { }");
        wrong("fn f() @of a { } fn main() { }");
        wrong("fn f(a: & int) -> & int of @_ { return a; } fn main() { }");
        wrong("fn f(a: & int) -> & int of a, @_ { return a; } fn main() { }");
        wrong("fn f(a: & int) -> & int of a @a { return a; } fn main() { }");
        wrong("fn f(a: & int) -> & int of @& { return a; } fn main() { }");
        wrong("fn f(a: & int) -> & int @, of a { return a; } fn main() { }");
        wrong("fn f(@_: int) { } fn main() { }");
        wrong("fn f(a: int) { }@; fn main() { }");
        wrong(main("match 1 { @1 => { } }"));
        wrong(main("match 1 { A(@) => { } }"));
        wrong(main("match 1 { A(b @c) => { } }"));
        wrong(main("match 1 { A => { }@, B => { } }"));
        wrong(main("match 1 { _ => { } _ @( => { } }"));
        wrong(main("match 1 @_ => { }"));
        wrong(main("if @{ }"));
        wrong(main("while @{ }"));
        wrong(main("if true { } @; "));
        wrong(main("let a = 1;@;"));
        wrong(main("return @return;"));
        wrong(main("continue @1;"));
        wrong("fn main() { f()@}");
        wrong(main("pop(a.@1);"));
        wrong(main("a = @;"));
        wrong(main("a[1] @;"));
        wrong(main("a^^^ @+ 1;"));
        wrong(main("a @b = 1;"));
    }

    private static void lists() {
        wrong("record R { a: int @b: int } fn main() { }");
        wrong("record R { @, a: int } fn main() { }");
        wrong("record R { a: int,@, b: int } fn main() { }");
        wrong("record R { a@, b: int } fn main() { }");
        wrong("record R { a: @} fn main() { }");
        wrong("choice C { A @B } fn main() { }");
        wrong("choice C { A, @} fn main() { }");
        wrong("choice C { A(a@: int) } fn main() { }");
        wrong("fn main(a: int @b: int) { }");
        wrong("fn main(a: int,@) { }");
        wrong(main("f(1 @2);"));
        wrong(main("f(@, 1);"));
        wrong(main("f(1,@);"));
        wrong(main("let a = new R { a: 1 @b: 2 };"));
        wrong(main("let a = new R { a @= 1 };"));
        wrong(main("let a = new R { @1 };"));
        wrong(main("let a = new R@(1);"));
        wrong(main("let a = new C.V @{ };"));
        wrong(main("let a = new @box;"));
        wrong(main("let a = row int [1 @2];"));
        wrong(main("let a = row int [@, 1];"));
        wrong(main("let a = row @1 [];"));
        wrong(main("let a = box(@);"));
        wrong(main("let a = box(1@, 2);"));
        wrong(main("let a = open(@);"));
        wrong(main("let a = len(@1);"));
        wrong(main("let a = len(a@, b);"));
        wrong(main("let a = pop(f@());"));
        wrong(main("push(a, 1@, 2);"));
        wrong(main("push(f@(), 1);"));
        wrong(main("swap(a, @);"));
        wrong(main("let a = & @(b);"));
        wrong(main("let a = & @new R { };"));
        wrong(main("let a = &! @1;"));
        wrong(main("print a[1@, 2];"));
        wrong(main("print a[@];"));
        wrong(main("print a.@;"));
        wrong(main("print a.b@(1);"));
        wrong(main("print (1)@(2);"));
        wrong(main("print (@;"));
        wrong(main("print (@);"));
        wrong(main("let a: @;"));
        wrong(main("let a: int @int;"));
        wrong(main("let a: @(int);"));
        wrong(main("let a: row@;"));
    }

    /** Each bracket or sign, ahead of which 15 are open, is the 16th, and with 16 open it is the 17th. */
    private static void seventeenth() {
        String[] exps = {"@(1)", "@- 1", "@not 1", "f@(1)", "f@()", "new R @{ }", "new R @{ a: 1 }", "new C.V@(1)", "box@(1)", "open@(1)",
            "len@(a)", "pop@(a)", "swap@(a, 1)", "row int @[]", "row int @[1]", "a@[0]", "& a@[0]", "&! a.b^@[0]", "row @box int []",
            "row @row int []", "row @& int []", "row @&! int []", "1 + @- 1", "1 + @not 1", "read * @(1)"};
        for (String exp : exps) {
            // main's { is one that is open.
            String sixteenth = main("print " + "(".repeat(14) + exp.replace("@", "") + ")".repeat(14) + ";");
            House.due("FAULT 1 of " + sixteenth, new House().judge(sixteenth) == 1 ? 1 : 0, 0);
            wrong(main("print " + "(".repeat(15) + exp + ")".repeat(15) + ";"));
        }
        for (String around : new String[] {"f(", "box(", "open(", "row int [", "a[", "new C.V(", "- ", "not "}) {
            String close = around.endsWith("[") ? "]" : around.endsWith("(") ? ")" : "";
            String sixteenth = main("print " + around.repeat(15) + "1" + close.repeat(15) + ";");
            House.due("FAULT 1 of " + sixteenth, new House().judge(sixteenth) == 1 ? 1 : 0, 0);
            String last = close.isEmpty() ? "@" + around : around.substring(0, around.length() - 1) + "@" + around.charAt(around.length() - 1);
            wrong(main("print " + around.repeat(15) + last + "1"));
        }
        String records = "new R { a: ";
        House.due("FAULT 1", new House().judge(main("print " + records.repeat(15) + "1" + "}".repeat(15) + ";")) == 1 ? 1 : 0, 0);
        wrong(main("print " + records.repeat(15) + "new R @{ a: 1"));
        String swaps = "swap(a, ";
        House.due("FAULT 1", new House().judge(main("print " + swaps.repeat(15) + "1" + ")".repeat(15) + ";")) == 1 ? 1 : 0, 0);
        wrong(main("print " + swaps.repeat(15) + "swap@(a, 1"));
    }

    private static void seventeenthBlocks() {
        String[] statements = {"if true @{ }", "while true @{ }", "match a @{ }", "push@(a, 1);", "pop@(a);", "swap@(a, 1);", "f@();", "f@(1);",
            "a@[0] = 1;", "let a: @box int;", "let a: @& int;", "let a: @&! int;", "let a: @row int;", "print @(1);", "return @- 1;"};
        for (String statement : statements) {
            String sixteenth = main("if true { ".repeat(14) + statement.replace("@", "") + " }".repeat(14));
            House.due("FAULT 1 of " + sixteenth, new House().judge(sixteenth) == 1 ? 1 : 0, 0);
            wrong(main("if true { ".repeat(15) + statement + " }".repeat(15)));
        }
        // An if behind else is open as long as what is behind it, its exp and its blocks.
        House.taken(main("if true { } else if " + "(".repeat(14) + "true" + ")".repeat(14) + " { }"));
        wrong(main("if true { } else if " + "(".repeat(14) + "@(true" + ")".repeat(15) + " { }"));
        House.taken(main("if " + "(".repeat(15) + "true" + ")".repeat(15) + " { } else { print " + "(".repeat(14) + "1" + ")".repeat(14) + "; }"));
        wrong(main("if true { } else { print " + "(".repeat(14) + "@(1" + ")".repeat(15) + "; }"));
        wrong(main("if true { } else if true { print " + "(".repeat(13) + "@(1" + ")".repeat(14) + "; }"));
        wrong(main("if true { } else if true { } else { print " + "(".repeat(13) + "@(1" + ")".repeat(14) + "; }"));
        // Behind it, it is open no more.
        House.taken(main("if true { } else if true { } else { } print " + "(".repeat(15) + "1" + ")".repeat(15) + ";"));
        House.taken(main("if true { } else if true { } ".repeat(30) + "if true { ".repeat(15) + "}".repeat(15)));
        // Each match has two in one another, its own { and an arm's.
        String matches = "match a { A => { ";
        House.due("FAULT 1", new House().judge(main(matches.repeat(7) + "match a { }" + "} }".repeat(7))) == 1 ? 1 : 0, 0);
        wrong(main(matches.repeat(7) + "match a { A => @{"));
        wrong(main(matches.repeat(7) + "match a { A@(b) => { "));
        wrong(main("if true { ".repeat(15) + "match a @{"));
    }

    private static void seventeenthTypes() {
        String[] kinds = {"box ", "row ", "& ", "&! "};
        for (String kind : kinds) {
            String[] around = {"fn f() -> $int { fail; }", "fn f(a: $int) { }", "record R { a: $int }", "choice C { A($int) }",
                "fn f() { let a: $int; }", "fn f() { let a = row $int []; }"};
            int[] open = {0, 1, 1, 2, 1, 1};
            for (int i = 0; i < around.length; i++) {
                String most = around[i].replace("$", "box ".repeat(15 - open[i]) + kind);
                House.due("FAULT 1 of " + most, new House().judge(most) == 1 ? 1 : 0, 0);
                wrong(around[i].replace("$", "box ".repeat(16 - open[i]) + "@" + kind));
                most = around[i].replace("$", kind.repeat(16 - open[i]));
                House.due("FAULT 1 of " + most, new House().judge(most) == 1 ? 1 : 0, 0);
                wrong(around[i].replace("$", kind.repeat(16 - open[i]) + "@" + kind));
            }
        }
        // A type is over where the next one begins.
        House.taken("record R { a: " + "box ".repeat(15) + "int, b: " + "row ".repeat(15) + "int } fn f(a: " + "box ".repeat(15) + "int, b: "
            + "box ".repeat(15) + "int) -> " + "box ".repeat(16) + "int { fail; } fn main() { let a: " + "box ".repeat(15) + "int; print "
            + "(".repeat(15) + "1" + ")".repeat(15) + "; }");
    }

    /** Blocks and brackets are open till they close. */
    private static void closed() {
        House.taken(main("print (1) + (2) + ((3)) + " + "(1) + ".repeat(40) + "1;"));
        House.taken(main("print " + "- 1 + ".repeat(40) + "- 1;"));
        House.taken(main("print " + "not true and ".repeat(40) + "not true;"));
        House.taken(main("if true { } ".repeat(40)));
        House.taken(main("let a = row int [1, 2]; print " + "a[0] + ".repeat(40) + "a[a[0]];"));
        House.runs(main("print " + "(".repeat(15) + "1" + ")".repeat(15) + " + " + "(".repeat(15) + "2" + ")".repeat(15) + ";"), 0, "3");
        House.runs(main("print " + "- ".repeat(15) + "1 + " + "- ".repeat(14) + "2;"), 0, "1");
        wrong(main("print " + "- ".repeat(8) + "(".repeat(7) + "@(1"));
        wrong(main("print " + "(".repeat(14) + "- @- 1"));
        wrong(main("print " + "(".repeat(14) + "1 + not @not"));
        House.due("a text of records", new House().judge("record R { a: int } ".repeat(24) + main("")), 2);
    }
}
