import java.util.NoSuchElementException;

/** Checks what the terms of the document say of programs, which promise 9 and 27 rest on. */
public final class LanguageTest {
  private static int wrong = 0;

  private static void type(Rexworth x, String text) {
    for (char sign : text.toCharArray()) {
      x.type(sign);
    }
  }

  /** The value of an expression, or its error, with so many digits. */
  private static void gives(int digits, String expression, String want) {
    Rexworth x = new Rexworth();
    type(x, expression);
    int size = x.reckon(digits);
    StringBuilder b = new StringBuilder(size < 0 ? "error " + -size : "");
    for (int i = 0; i < size; i++) {
      b.append(x.reckoned(digits, i));
    }
    due(expression, b.toString(), want);
  }

  private static void gives(String expression, String want) {
    gives(9, expression, want);
  }

  private static void due(String what, String got, String want) {
    if (!got.equals(want)) {
      wrong++;
      System.out.println(what + "\n  gives " + got + "\n  due is " + want);
    }
  }

  /** What a program, its lines parted by ';', says, with a '/' behind each, and how it ends. */
  private static void says(String program, String want, String... arguments) {
    saysWithin(2000, program, want, arguments);
  }

  private static void saysWithin(int steps, String program, String want, String... arguments) {
    Rexworth x = new Rexworth();
    for (String line : program.split(";", -1)) {
      type(x, line.trim());
      x.line();
    }
    for (String argument : arguments) {
      type(x, argument);
      x.argument();
    }
    StringBuilder b = new StringBuilder();
    char end = x.run(steps);
    for (int i = 0; i < x.said(); i++) {
      for (int k = 0; k < x.saidLength(i); k++) {
        b.append(x.saidSign(i, k));
      }
      b.append('/');
    }
    b.append(end == 'd' ? "" : end == 'l' ? " over " + x.where() : " " + x.error() + " at " + x.where());
    due(program, b.toString(), want);
    if (!x.isTrue()) {
      due(program + " is true", "false", "true");
    }
  }

  private static void operators() {
    gives("2 + 3 * 4", "14");
    gives("(2 + 3) * 4", "20");
    gives("2 ** 3 ** 2", "64");
    gives("-2 ** 2", "4");
    gives("2 ** -1", "0.5");
    gives("10 - 3 - 2", "5");
    gives("100 / 10 / 2", "5");
    gives("7 % 2 // 2", "1");
    gives("1 + 2 || 3 + 4", "37");
    gives("'a' 'b'", "a b");
    gives("'a'   'b'", "a b");
    gives("'a''b'", "ab");
    gives("'a' || 'b'", "ab");
    gives("'a'||'b' 'c'", "ab c");
    gives("a b 1", "a b 1");
    gives("5x", "5x");
    gives("1.2.3", "1.2.3");
    gives("a(1", "error 20");
    gives("a (1)", "a 1");
    gives("'a'(1)", "a1");
    gives("a ~0", "a 1");
    gives("a~0", "a1");
    gives("a~=b", "1");
    gives("a ~~1", "a 1");
    gives("1 2 = 1 2", "1");
    gives("3 < 2 < 1", "1");
    gives("1 < 2 & 2 < 3", "1");
    gives("1 | 1 & 0", "1");
    gives("0 & 1 | 1", "1");
    gives("~1 | 1", "1");
    gives("1 & 2", "error 34");
    gives("1 | ' 1'", "error 34");
    gives("0 & 'x'", "error 34");
    gives("~'01'", "error 34");
    gives("a = b", "0");
    gives("'a ' = ' a'", "1");
    gives("'a' < 'ab'", "1");
    gives("'a' > 'a'", "0");
    gives("'abc' >= 'abd'", "0");
    gives("'' = ' '", "1");
    gives("1.0 = 1", "1");
    gives("' 1 ' = '1e0'", "1");
    gives("1.0 == 1", "0");
    gives("'a' == 'a '", "0");
    gives("a == 'a'", "1");
    gives("9 < 10", "1");
    gives("'9' < '10x'", "0");
    gives(3, "1.0001 = 1", "1");
    gives("1e = '1e'", "1");
    gives("'1e99' < '-1e99'", "0");
    gives("+ - + 5", "-5");
    gives("-'x'", "error 41");
    gives("'x' + 1/0", "error 42");
    gives("1/0 + 'x'", "error 42");
    for (String bad : new String[] {"", " ", "1 +", "* 1", "()", "(1", "1)", "a(1,)", "a(,1)", "a(1,,2)",
        "1, 2", "'a", "a:", ".", "1 ** ** 2", "1 = = 1", "= 1", "~", "a . b", "(1,2)", "1 +* 2"}) {
      gives(bad, "error 20");
    }
  }

  private static void numbers() {
    gives("1.50 + 1.5", "3.00");
    gives("1.20 * 2.0", "2.400");
    gives("1.50 - 1.5", "0");
    gives("0.00 + 1.5", "1.50");
    gives("10 / 4", "2.5");
    gives("6 / 2", "3");
    gives("100 / 10", "10");
    gives("2 / 3", "0.666666667");
    gives("-2 / 3", "-0.666666667");
    gives(1, "2 / 3", "0.7");
    gives(20, "2 / 3", "0.66666666666666666667");
    gives("007 + 0", "7");
    gives("007", "007");
    gives("1.", "1.");
    gives(".5 + 0", "0.5");
    gives("5. + .5", "5.5");
    gives("' 5 ' + ' +5 '", "10");
    gives("'- 5' + 1", "error 41");
    gives("'' + 1", "error 41");
    gives("'.' + 1", "error 41");
    gives("'1e' + 1", "error 41");
    gives("'1e100' + 1", "error 41");
    gives("'1e+02' + 1", "101");
    gives("'1e+' + 1", "error 41");
    gives("'1.2.3' + 1", "error 41");
    gives("'--1' + 1", "error 41");
    gives("'1 2' + 1", "error 41");
    gives("'1e1.0' + 1", "error 41");
    gives("123456789 + 0.5", "123456790");
    gives("123456788.5 + 0", "123456789");
    gives("-123456788.5 + 0", "-123456789");
    gives("999999999.5 + 0", "1.00000000e+9");
    gives("999999999 + 1", "1.00000000e+9");
    gives("0.0000000001234567891 * 1", "0.000000000123456789");
    gives("0.00000000001234567891 * 1", "1.23456789e-11");
    gives(3, "1000 * 1", "1.00e+3");
    gives(3, "1005 * 1", "1.01e+3");
    gives(3, "1004.9 * 1", "1.00e+3");
    gives(3, "2000 / 1", "2.00e+3");
    gives(3, "0.000001 + 0", "0.000001");
    gives(3, "0.0000001 + 0", "1e-7");
    gives(1, "15 + 0", "2e+1");
    gives(1, "0.14 + 0", "0.1");
    gives("'1e15' * 1", "1e+15");
    gives("'1e8' * 1", "100000000");
    gives("'1e9' * 1", "1e+9");
    gives("1 / 3 * 3", "0.999999999");
    gives("'1e99' * 10", "error 42");
    gives("'1e99' * 9", "9e+99");
    gives("'1e-99' / 10", "error 42");
    gives("'1e-99' * 1", "1e-99");
    gives("'1e99' - '1e99'", "0");
    gives("'1e99' + '1e-99'", "1.00000000e+99");
    gives("'1e-99' - '1e99'", "-1.00000000e+99");
    gives("0 * '-5'", "0");
    gives("-0", "0");
    gives("'-0.00' + 0", "0");
    gives("0 / 5", "0");
    gives("0 / 0", "error 42");
    gives("5 % 0", "error 42");
    gives("5 // 0.00", "error 42");
    gives("7 % 2", "3");
    gives("-7 % 2", "-3");
    gives("7 // 2", "1");
    gives("-7 // 2", "-1");
    gives("7 // -2", "1");
    gives("7.5 // 2", "1.5");
    gives("1 // 3", "1");
    gives("4 // 2", "0");
    gives("0.5 % 0.7", "0");
    gives("'1e20' % 1", "error 26");
    gives("'1e20' // 3", "error 26");
    gives("999999999 % 1", "999999999");
    gives("'1e9' % 1", "error 26");
    gives("'1e9' % 1.1", "909090909");
    gives("2 ** 10", "1024");
    gives("0 ** 0", "1");
    gives("0 ** 5", "0");
    gives("0 ** -1", "error 42");
    gives("5 ** 0", "1");
    gives("1.10 ** 2", "1.2100");
    gives("2 ** 99", "6.33825300e+29");
    gives("2 ** -99", "1.57772181e-30");
    gives("2 ** 100", "error 26");
    gives("2 ** -100", "error 26");
    gives("2 ** 0.5", "error 26");
    gives("2 ** 2.0", "4");
    gives("2 ** 'x'", "error 41");
    gives("'x' ** 0.5", "error 41");
    gives("10 ** 20", "1.00000000e+20");
    gives("10 ** 99", "1.00000000e+99");
    gives("100 ** 50", "error 42");
    gives("10 ** -20", "1e-20");
    gives("5 ** -2", "0.04");
    gives("-3 ** 3", "-27");
    gives("-2 ** -3", "-0.125");
    gives(20, "3 ** 40", "12157665459056928801");
    gives(20, "3 ** 41", "36472996377170786403");
    gives(20, "3 ** 42", "1.0941898913151235921e+20");
  }

  private static void functions() {
    gives("length('')", "0");
    gives("length('a b ')", "4");
    gives("words('  a  b ')", "2");
    gives("words('')", "0");
    gives("word('  a  bc ', 2)", "bc");
    gives("word('a b', 3)", "");
    gives("word('a b', 0)", "error 40");
    gives("word('a b', 1.5)", "error 40");
    gives("word('a b', 'x')", "error 40");
    gives("word('a b', 1.0)", "a");
    gives("substr('abc', 2, 4) || '.'", "bc  .");
    gives("substr('abc', 5, 1) || '.'", " .");
    gives("substr('abc', 1, 0)", "");
    gives("substr('abc', 0, 1)", "error 40");
    gives("substr('abc', 1, -1)", "error 40");
    gives("substr('abc', 2)", "error 40");
    gives("length(substr('abc', 1, 200))", "200");
    gives("substr('abc', 1, 201)", "error 45");
    gives("substr('abc', '9e9', 1) || '.'", " .");
    gives("copies('ab', 3)", "ababab");
    gives("copies('ab', 0)", "");
    gives("copies('ab', -1)", "error 40");
    gives("length(copies('ab', 100))", "200");
    gives("copies('ab', 101)", "error 45");
    gives("copies('', '9e9')", "");
    gives("pos('c', 'abcabc')", "3");
    gives("pos('cab', 'abcabc')", "3");
    gives("pos('bd', 'abcbd')", "4");
    gives("pos('', 'abc')", "1");
    gives("pos('a', '')", "0");
    gives("pos('x', 'abc')", "0");
    gives("pos('abcd', 'abc')", "0");
    gives("abs(-1.50)", "1.50");
    gives("abs('x')", "error 40");
    gives("max(2, 10)", "10");
    gives("min(2, 10)", "2");
    gives("max(-1.0, -2)", "-1.0");
    gives("max(1, 'x')", "error 40");
    gives("max(1)", "error 40");
    gives("min(1, 2, 3)", "error 40");
    gives("length()", "error 40");
    gives("foo()", "error 43");
    gives("foo(1, 2)", "error 43");
    gives("length(1/0)", "error 42");
    gives("copies('a', 150) || copies('b', 51)", "error 45");
    gives("copies('a', 150) copies('b', 50)", "error 45");
    gives("length(copies('a', 150) copies('b', 49))", "200");
    says("call length 'abc';say result", "3/");
    says("say length('abc');exit;length:;return 'mine'", "mine/");
    says("call copies 1", " 40 at 0");
    says("call foo", " 43 at 0");
  }

  private static void clauses() {
    says("say", " 20 at 0");
    says("say = 5;say say", "5/");
    says("end = 1;if = 2;say end if", "1 2/");
    says("x = ", " 20 at 0");
    says("x == 5;say rc", "1/");
    says("say 1 x:", " 20 at 0");
    says("f: say 1", " 20 at 0");
    says("exit 5", " 20 at 0");
    says("leave i", " 20 at 0");
    says("end x", " 20 at 0");
    says("else 1", " 20 at 0");
    says("call", " 20 at 0");
    says("call 5", " 20 at 0");
    says("call f.x", " 20 at 0");
    says("call f 1,", " 20 at 0");
    says("call f ,1", " 20 at 0");
    says("drop", " 20 at 0");
    says("drop 5", " 20 at 0");
    says("pull", " 20 at 0");
    says("address", " 20 at 0");
    says("signal", " 20 at 0");
    says("signal on x", " 20 at 0");
    says("signal on;say 1;on:;say 2", "2/");
    says("parse", " 20 at 0");
    says("parse x y", " 20 at 0");
    says("parse value a", " 20 at 0");
    says("parse value with a", " 20 at 0");
    says("parse arg +", " 20 at 0");
    says("parse arg (", " 20 at 0");
    says("procedure expose", " 20 at 0");
    says("procedure a b", " 20 at 0");
    says("procedure expose a.1", " 20 at 0");
    says("do i = 1 to", " 20 at 0");
    says("do i = 1 by 1 to 2;end", " 20 at 0");
    says("do 1 to 2;end", " 26 at 0");
    says("do i = 1 while 1 to 2;end", " 20 at 0");
    says("say 'a", " 20 at 0");
    says("say 1/0 (", " 20 at 0");
    says("a :;signal a", " over 1");
    says("a.b:;say 1", "1/");
    says("do to = 1 to 2;say to;end", "1/2/");
    says("do i = (to) to 2;end", " 26 at 0");
    says("to = 1;do i = (to) to (2);say i;end", "1/2/");
    says("do to;end", " 26 at 0");
    says("parse value (with) 1 with a b;say b a", "1 with/");
  }

  private static void variables() {
    says("say a a.b a.b.c a.", "a a.b a.b.c a./");
    says("b = 5;a.b = 1;say a.5 a.b a.b.b", "1 1 a.5.5/");
    says("b = 'x y';a.b = 1;c = 'x y';say a.c a.1b", "1 a.1b/");
    says("a.1 = 1;a. = 2;say a.1 a.2 a.", "2 2 2/");
    says("a. = 2;a.1 = 1;say a.1 a.2;drop a.1;say a.1;drop a.;say a.1 a.2 a.", "1 2/2/a.1 a.2 a./");
    says("a.1 = 1;drop a.;say a.1", "a.1/");
    says("a = 1;drop a b;say a", "a/");
    says("i = '';a.i = 5;say a.i a.;a. = 2;say a.i", "5 a./2/");
    says("a..b = 1;b = 2;say a..b;a..b = 3;b = c;c = 4;say a..b", "a..2/a..c/");
    says("i = copies('a', 200);x.i = 1;say x.i", "1/");
    says("i = copies('a', 199);x.i.1 = 1", " 45 at 1");
    says("i = copies('a', 199);say length(x.i)", " 45 at 1");
    says("i = copies('a', 198);say length(x.i)", "200/");
    says("a = 1;a = a + f();say a;exit;f:;a = 5;return a", "6/");
  }

  private static void blocks() {
    says("if 1;say 1;else;say 2;end;say 3", "1/3/");
    says("if 0;say 1;else;say 2;end;say 3", "2/3/");
    says("if 0;say 1;end;say 3", "3/");
    says("if 2;end", " 34 at 0");
    says("if ' 1';end", " 34 at 0");
    says("if 2", " 10 at 0");
    says("do 'x'", " 10 at 0");
    says("if 1;if 0;else;say 1;end;else;say 2;end", "1/");
    says("if 0;if (;end;say 1", "1/");
    says("if 0;end x;end;say 1", "1/");
    says("else", " 10 at 0");
    says("end", " 10 at 0");
    says("do;else;end", " 10 at 1");
    says("do 3;say 1;end", "1/1/1/");
    says("do 0;say 1;end;say 2", "2/");
    says("do 2.0;say 1;end", "1/1/");
    says("do -1;end", " 26 at 0");
    says("do 1.5;end", " 26 at 0");
    says("do a;end", " 26 at 0");
    says("do i = a to 2;end", " 26 at 0");
    says("do i = 1 to a by 1/0;end", " 26 at 0");
    says("do i = 1 to 2 by 'x';end", " 26 at 0");
    says("do i = 1 to 3;say i;end;say i", "1/2/3/4/");
    says("do i = 3 to 1 by -1;say i;end;say i", "3/2/1/0/");
    says("do i = 1 by 2 to 5;end", " 20 at 0");
    says("do i = 1 to 5 by 2;say i;end", "1/3/5/");
    says("do i = 1.5 to 3 by .5;say i;end", "1.5/2.0/2.5/3.0/");
    says("do i = '007' to 8;say i;end", "7/8/");
    says("do i = 5 to 1;say i;end;say i", "5/");
    says("i = 9;do i = 1 to i;say i;i = i + 4;end", "1/6/");
    says("do i = 1 to 3;i = 'x';end", " 26 at 0");
    says("do i = 1 while i < 3;say i;end", "1/2/");
    says("a = 0;do while a < 2;a = a + 1;end;say a", "2/");
    says("do while 0;say 1;end;say 2", "2/");
    says("do 2 while 0;say 1;end;say 2", "2/");
    says("do 0 while 5;say 1;end;say 2", "2/");
    says("do while 5;end", " 34 at 0");
    says("do 3;leave;say 1;end;say 2", "2/");
    says("do i = 1 to 3;if i = 2;iterate;end;say i;end", "1/3/");
    says("do 2;do;leave;end;say 1;end;say 2", "2/");
    says("do 2;do;iterate;end;say 1;end;say 2", "2/");
    says("do i = 1 to 2;do k = 1 to 2;leave;end;say i k;end", "1 1/2 1/");
    says("leave", " 28 at 0");
    says("do;iterate;end", " 28 at 1");
    says("if 1;leave;end", " 28 at 1");
    says("do 1;call f;end;exit;f:;leave", " 28 at 5");
    says("do x.i = 1 to 2;say x.i;i = 5;end", "1/ 26 at 0");
    says("do x. = 1 to 2;say x.1;end", "1/2/");
    saysWithin(6, "do 3;say 1;end", "1/1/ over 0");
    saysWithin(7, "do 3;say 1;end", "1/1/ over 1");
    saysWithin(4, "if 0;else;end;if 1;else;end", "");
    saysWithin(3, "if 0;else;end;if 1;else;end", " over 4");
    saysWithin(4, "do 0;end;do;end;exit", "");
    saysWithin(8, "do i = 1 to 2;iterate;end;do i = 1 to 9;leave;end;exit;say 1", "");
    saysWithin(3, "if 1;else;end;exit", "");
  }

  private static void calls() {
    says("call f 1, 2;say result;exit;f:;parse arg a, b;return b a", "2 1/");
    says("result = 5;call f;say result;f:;return", "result/");
    says("say f(2);exit;f:;parse arg a;return a * 2", "4/");
    says("say f();f:;return", " 44 at 0");
    says("call f;say a;exit;f:;a = 1;return", "1/");
    says("a = 1;call f;say a;exit;f:;procedure;say a;a = 2;return", "a/1/");
    says("a = 1;call f;say a b;exit;f:;procedure expose a;say a;a = 2;b = 3;return", "1/2 b/");
    says("x.1 = 1;call f;say x.1 x.2;exit;f:;procedure expose x.;x.2 = x.1;drop x.1;return", "x.1 1/");
    says("a = 1;call f;exit;f:;procedure expose a;call g;say a;return;g:;procedure expose a;a = 2;return",
        "2/");
    says("a = 1;call f;exit;f:;procedure;call g;say a;return;g:;procedure expose a;a = 2;return", "2/");
    says("call f;exit;f:;;g:;procedure;say 1;return", "1/");
    says("call f;f:;say 1;procedure", "1/ 17 at 3");
    says("procedure", " 17 at 0");
    says("call f;f:;procedure;procedure", " 17 at 3");
    says("call f;say 1;f:;say 2;f:;say 3", "2/3/");
    says("say 1;return;say 2", "1/");
    says("call f;say 1;exit;f:;exit", "");
    says("call f;say 1;exit;f:;digits 3;address me;return", "1/");
    says("say f(f(1));exit;f:;parse arg a;return a + 1", "3/");
    says("say f() g();exit;f:;do 3;return 1;end;g:;end", " 10 at 7");
    says("a = 'x';say a f() a;exit;f:;a = 'y';return 'f'", "x f y/");
    says("say fact(5);exit;fact:;procedure;parse arg n;if n < 2;return 1;end;return n*fact(n-1)", "120/");
    says("i = 0;call f;f:;i = i + 1;say i;call f",
        "1/2/3/4/5/6/7/8/9/10/11/12/13/14/15/16/17/18/19/20/ 45 at 5");
    says("parse arg a, b;say a'-'b'-'", "x-y z-/", "x", "y z");
  }

  private static void templates() {
    says("parse value 'a b c d' with x y;say x'/'y", "a/b c d/");
    says("parse value '  a   b' with x y;say x'/'y'/'", "a/  b//");
    says("parse value '  a ' with x;say x'/'", "  a //");
    says("parse value 'a' with x y z;say x'/'y'/'z'/'", "a////");
    says("parse value 'a b c' with . y .;say y", "b/");
    says("parse value 'a/b/c' with x '/' y;say x'-'y", "a-b/c/");
    says("parse value 'abc' with x '/' y;say x'-'y'-'", "abc--/");
    says("parse value 'a,b' with x ',' y ',' z;say x y'-'z'-'", "a b--/");
    says("parse value 'abcdef' with x 3 y 5 z;say x y z", "ab cd ef/");
    says("parse value 'abcdef' with 3 x 1 y;say x y", "cdef abcdef/");
    says("parse value 'abcdef' with x +2 y +3 z;say x y z", "ab cde f/");
    says("parse value 'abcdef' with 5 x -2 y;say x y", "ef cdef/");
    says("parse value 'abcdef' with x 0 y 99 z;say x'-'y'-'z'-'", "abcdef-abcdef--/");
    says("parse value 'abcdef' with 'c' x 'f' +1 y;say x'-'y'-'", "de--/");
    says("parse value 'abcdef' with 'cd' x 'e' -2 y;say x'-'y", "ef-cdef/");
    says("parse value 'abcdef' with x + 2 y;say x y", "ab cdef/");
    says("parse value 'abc' with x 2.0 y;say x y", "a bc/");
    says("parse value 'abc' with x 1.5 y", " 26 at 0");
    says("parse value 'a b' with x , y;say x'-'y'-'", "a b--/");
    says("a = 'p q';parse var a a b;say a b", "p q/");
    says("do i = 1 to 300;parse var u a b;end;say length(copies(i, 3))", "9/");
    says("parse value 'abc' with 'a' x 'b' y;say x'-'y", "bc-c/");
    says("parse value '/a' with x '/' y;say x'-'y", "/a-a/");
    says("parse value 'a b c' with 'a' x y 'a' z;say x'-'y'-'z'-'", "b-c--/");
    says("parse value 'aab' with 'a' x 'a' y;say x'-'y", "ab-b/");
    says("parse value 'abcd' with 2 x 'b' y;say x'-'y", "bcd-cd/");
    says("parse value 'abcd' with 'a' x 'b' y +1 z;say x'-'y'-'z", "bcd-cd-cd/");
    says("parse value 'ab' with 'ab' x 'ab' y;say x'-'y'-'", "--/");
    says("parse value 'ab' with 'a' . 'b' y;say y'-'", "-/");
    says("parse value 'a' with 'a' 'b';say 1", "1/");
    says("parse arg 'a' x 'b' y, 'c' z 'c' u;say x y z u", "bc c cd d/", "abc", "ccd");
    says("v = 'abc';parse var v 'a' v 'b' w;say v w", "bc c/");
    says("parse value 'abc' with x '' y;say x'-'y", "abc-abc/");
    says("parse var u a b;say a'-'b'-'", "u--/");
    says("parse value '2 x y' with i a.i b;say a.2 b", "x y/");
    says("parse value 'x' with a. ;say a.1", "x/");
    says("parse value 'a b' with;say 1", "1/");
    says("parse arg;parse arg a;say a", "p q/", "p q");
    says("parse arg , b;say b", "y/", "x", "y");
    says("call f 'a b', 'c';exit;f:;parse arg x y, z, u;say x y z u'.'", "a b c ./");
    says("parse value 'a''b' with x", "");
  }

  private static void conditions() {
    says("signal on syntax;say 1/0;exit;syntax:;say 2;say 1/0", "2/ 42 at 5");
    says("signal on syntax;say 1/0", " 16 at 1");
    says("signal on syntax;signal off syntax;say 1/0;syntax:", " 42 at 2");
    says("signal on novalue;a = 1;say a;say b;exit;novalue:;say 2;say b", "1/2/b/");
    says("signal on novalue;x. = 1;say x.2;say y.2;exit;novalue:;say 3", "1/3/");
    says("signal on novalue;i = 1;x.i = 1;say x.i;x.k = 2;drop x.z;say 5", "1/5/");
    says("signal on novalue;parse var q a;pull b;say 1", "1/");
    says("signal on novalue;say b", " 16 at 1");
    says("signal on syntax;say (;syntax:;say 1", "1/");
    says("signal on syntax;signal nowhere;syntax:;say 1", "1/");
    says("signal on syntax;do 2;say 1/0;end;syntax:;end", " 10 at 5");
    says("signal on syntax;call f;exit;f:;procedure;a = 1;say 1/0;syntax:;say a;return;say 5", "a/");
    says("call f;say 1/0;exit;f:;signal on syntax;return;syntax:;say 1", "1/");
    says("call f;say 5;exit;f:;signal on syntax;say 1/0;syntax:;say 1;return", "1/5/");
    says("signal f;say 1;f:;say 2", "2/");
    says("signal nowhere", " 16 at 0");
    says("do 2;signal f;end;f:;say 1;end", "1/ 10 at 5");
    says("call f;say 3;exit;f:;do 1;signal g;end;g:;say 2;return", "2/3/");
    says("signal on syntax;interpret 'say 1/0';exit;syntax:;say 1;call f;f:", "1/");
    says("signal on syntax;f:;call f;exit;syntax:;say 1", "1/");
  }

  private static void others() {
    says("interpret 'say 1 + 1';say 3", "2/3/");
    says("interpret '';say 1", "1/");
    for (String bad : new String[] {"f:", "if 1", "do", "else", "end", "procedure", "leave", "iterate",
        "say (", "say", "end x"}) {
      says("interpret '" + bad + "'", " 20 at 0");
    }
    says("do 3;interpret 'leave';end", " 20 at 1");
    says("interpret 'exit';say 1", "");
    says("interpret 'return';say 1", "");
    says("say f();exit;f:;interpret 'return 5';say 1", "5/");
    says("interpret 'signal f';say 1;f:;say 2", "2/");
    says("a = 'interpret b';b = 'say c';interpret a", "c/");
    says("a = 'interpret a';interpret a", " 45 at 1");
    says("interpret 'parse arg x';say x", "q/", "q");
    says("interpret 'call f 1';say result;exit;f:;parse arg n;return n + 1", "2/");
    saysWithin(2, "interpret 'say 1';say 2", "1/ over 1");
    saysWithin(1, "interpret 'say 1';say 2", " over 0");
    says("push 1;queue 2;push 3;pull a;pull b;pull c;pull d;say a b c d'.'", "3 1 2 ./");
    says("'a b  c';say rc;'';say rc", "3/0/");
    says("digits 3;say 2/3;digits 20;say 2/3", "0.667/0.66666666666666666667/");
    says("say copies('a', 201)", " 45 at 0");
  }

  public static void main(String[] args) {
    operators();
    numbers();
    functions();
    clauses();
    variables();
    blocks();
    calls();
    templates();
    conditions();
    others();
    due("9 and 27 are asked of new objects", asksNothing(), "none");
    System.out.println(wrong == 0 ? "all answers are as due" : wrong + " answers are wrong");
    if (wrong != 0) {
      System.exit(1);
    }
  }

  private static String asksNothing() {
    try {
      return "" + new Rexworth().reckoned(9, 0);
    } catch (NoSuchElementException e) {
      return "none";
    }
  }
}
