import java.util.NoSuchElementException;

/**
 * The edges that the Terms of the document name: too small, too large, empty, full. Each method has
 * the sentence that it checks ahead of it, in the order of the document.
 */
public final class EdgesTest extends Asking {
  /** With so many steps: how the program ends, the steps, and how often each line is done. */
  private static void counts(int steps, String text, String want) {
    Rexworth x = program(text);
    x.run(steps);
    StringBuilder b = new StringBuilder().append(x.steps()).append(':');
    for (int i = 0; i < text.split(";", -1).length; i++) {
      b.append(' ').append(x.done(i));
    }
    due(text + " within " + steps, b + ended(x), want);
    due(text + " is true", x.isTrue(), true);
  }

  private static void counts(String text, String want) {
    counts(2000, text, want);
  }

  private static void none(String expression) {
    gives(expression, "error 20");
  }

  private static String times(String text, int number) {
    return text.repeat(number);
  }

  // ---- Lines

  /** A program has at most 40 lines, numbered from 0. */
  private static void fortyLines() {
    Rexworth x = new Rexworth();
    for (int i = 0; i < 40; i++) {
      x.type('a');
      due("line " + i, x.line(), i);
    }
    thrown("a 41st line", IllegalStateException.class, x::line);
    due("all 40 are run", x.run(2000), 'd');
    due("all 40 are steps", x.steps(), 40);
    due("the first one is done", x.done(0), 1);
    due("the last one is done", x.done(39), 1);
    thrown("there is no line 40", IndexOutOfBoundsException.class, () -> x.done(40));
    due("the last one has its sign", x.at(39, 0), 'a');
  }

  /** Lines are of at most 60 signs. */
  private static void sixtySigns() {
    Rexworth x = new Rexworth();
    String line = "say '" + times("b", 54) + "'";
    for (int i = 0; i < 60; i++) {
      due("sign " + i, x.type(line.charAt(i)), i + 1);
    }
    thrown("a 61st sign", IllegalStateException.class, () -> x.type('b'));
    x.line();
    x.run(1);
    due("all 60 count", said(x), times("b", 54) + "/");
    due("the last one is there", x.at(0, 59), '\'');
    thrown("a 61st one is not", NoSuchElementException.class, () -> x.at(0, 60));
  }

  /** Small letters, digits, ' ' and . , = + - * / % & | ~ < > ( ) ' : and no others. */
  private static void signsOfLines() {
    String all = "abcdefghijklmnopqrstuvwxyz0123456789 .,=+-*/%&|~<>()':";
    for (int sign = 0; sign <= 0xffff; sign += sign < 300 ? 1 : 997) {
      Rexworth x = new Rexworth();
      char one = (char) sign;
      due("sign " + sign, asked(() -> x.type(one)),
          all.indexOf(one) >= 0 ? "1" : "IllegalArgumentException");
      due("typed behind " + sign, x.wipe(), all.indexOf(one) >= 0 ? 1 : 0);
    }
    thrown("the last sign of all", IllegalArgumentException.class,
        () -> new Rexworth().type('\uffff'));
  }

  /** Words, a letter and further letters, digits and dots. */
  private static void words() {
    gives("a", "a");
    gives("z9.", "z9.");
    gives(times("w", 60), times("w", 60));
    gives("a1.2b..c", "a1.2b..c");
    gives("9z", "9z");
    none(".a");
  }

  /** Numbers, digits with perhaps one dot ahead of, between or behind them. */
  private static void numbersInLines() {
    gives("0", "0");
    gives(".5", ".5");
    gives("5.", "5.");
    gives("5.5", "5.5");
    gives("5.5.5", "5.5.5");
    none(".");
    none("..5");
    none("5..");
    gives("1..5", "1..5");
    gives(times("7", 60), times("7", 60));
  }

  /** Texts, which stand between two ' and have none in them. */
  private static void textsInLines() {
    gives("''", "");
    gives("' '", " ");
    gives("'" + times("t", 58) + "'", times("t", 58));
    gives("'a''b'", "ab");
    none("'");
    none("'a");
    none("'a''");
    says("say 'a", " 20 at 0");
  }

  /** ** // == ~= <= >= || are read as one, the longest being taken. */
  private static void signsReadAsOne() {
    gives("2**3", "8");
    gives("7//4", "3");
    gives("1==1", "1");
    gives("1~=1", "0");
    gives("1<=1", "1");
    gives("1>=1", "1");
    gives("1||1", "11");
    none("2***3");
    none("7///4");
    none("1===1");
    none("1~==1");
    none("1<==1");
    none("1>==1");
    none("1|||1");
    none("1<>2");
    none("1=<1");
    none("1=>1");
    none("1&&1");
    none("1%%1");
    gives("1=~1", "0");
  }

  /** Blanks part them, and count in expressions alone. */
  private static void blanks() {
    none("2* *3");
    none("7/ /4");
    none("1= =1");
    none("1~ =1");
    none("1< =1");
    none("1> =1");
    none("1| |1");
    gives("a b", "a b");
    gives("a    b", "a b");
    gives("  a  ", "a");
    gives("1 .5", "1 .5");
    says("   ;  say   1  ; f  : ;  x  =  5  ;say x;signal   g;say 2;g :", "1/5/");
    counts("  ;say 1", "1: 0 1");
  }

  // ---- Clauses

  /** A line is a clause, found by its first parts: nothing; a label, a word and ':' alone. */
  private static void nothingAndLabels() {
    counts("", "0: 0");
    counts(" ", "0: 0");
    counts("f:", "0: 0");
    counts("f : ", "0: 0");
    counts("say:", "0: 0");
    counts("a.b.:", "0: 0");
    says(":", " 20 at 0");
    says("f::", " 20 at 0");
    says("f: say 1", " 20 at 0");
    says("5:", " 20 at 0");
    says("'f':", " 20 at 0");
    says("f f:", " 20 at 0");
  }

  /** An assignment, a word, '=' and an expression. No word is kept for itself. */
  private static void assignments() {
    says("a=1;say a", "1/");
    says("a=", " 20 at 0");
    says("a= =", " 20 at 0");
    says("a = b = c;say a", "0/");
    says("=1", " 20 at 0");
    says("5 = 5;say rc", "1/");
    says("'a' = 5;say a", "a/");
    String words = "say if else do end leave iterate call return exit procedure parse drop digits "
        + "signal push queue pull interpret address";
    for (String word : words.split(" ")) {
      says(word + " = 7;say " + word, "7/");
      says(word + ". = 7;say " + word + ".1", "7/");
      says(word + " =", " 20 at 0");
    }
  }

  /** A line whose first word is one of these and that is not as told is none. */
  private static void clausesTooShort() {
    String[] lines = {
      "say", "if", "do i =", "do i = 1 to", "do i = 1 by", "do i = to 2", "do while", "do 1 while",
      "do i = 1 while", "call", "call f 1,", "procedure expose", "parse", "parse var", "parse value",
      "parse value with", "parse value 1", "drop", "digits", "signal", "push", "queue", "pull",
      "interpret", "address", "say )", "say (", "if )", "do )", "do (", "do 1 +", "do i = )",
      "do i = 1 to )", "do i = 1 by )", "do while )", "do 1 while )", "call f )", "return )",
      "parse value ) with a", "x = )", ")", "digits )", "push )", "queue )", "interpret )"
    };
    for (String line : lines) {
      says(line, " 20 at 0");
    }
  }

  /** A line whose first word is one of these and that is not as told is none. */
  private static void clausesTooLong() {
    String[] lines = {
      "say 1,", "say 1)", "if 1,2", "else 1", "do 1,2", "do i = 1 to 2 to 3", "do i = 1 by 1 by 2",
      "do i = 1 by 1 to 2", "do i = 1 while 1 to 2", "do while 1 while 1", "end 1", "leave i",
      "iterate i", "call f 1,,2", "call f ,1", "call f 1 2)", "return 1,2", "exit 0", "procedure a",
      "procedure expose a 1", "procedure expose a.b", "procedure expose a,b", "drop 1", "drop a,b",
      "digits 5,5", "signal a b", "signal on syntax a", "signal off novalue 1", "push 1,2",
      "queue 1,2", "pull a b", "pull 1", "pull 'a'", "interpret 1,2", "address a b", "address 'a'",
      "address a.b", "parse upper a", "parse 'a'", "parse var 'a' b", "parse var 5 b"
    };
    for (String line : lines) {
      says(line, " 20 at 0");
    }
  }

  /** All else is a command: a first word that is nearly one of these, too. */
  private static void wordsThatAreNearlyThese() {
    String words = "say if else do end leave iterate call return exit procedure parse drop digits "
        + "signal push queue pull interpret address";
    for (String word : words.split(" ")) {
      String less = word.substring(0, word.length() - 1);
      String[] others = {word + "s", "s" + word, less, less + "q", "q" + word.substring(1),
          word + ".", word + "1"};
      for (String other : others) {
        if (!(" " + words + " ").contains(" " + other + " ")) {
          Rexworth x = ran(other + " 7");
          due(other, command(x, 0) + ended(x), "host " + other + " 7");
        }
      }
    }
    says("if 1;els;end;say rc", "1/");
    String[] lines = {"parse ark a", "parse brg a", "parse vat a b", "parse valve 1 with a",
        "parse value 1 wits a", "parse value 1 pith a", "signal of syntax", "signal in syntax",
        "signal on syntay", "signal on zyntax", "signal on novalu", "procedure expos a",
        "procedure axpose a", "do i = 1 ti 2 bi 3 whil 1 =", "parse arg1 a"};
    for (String line : lines) {
      says(line, " 20 at 0");
    }
    says("do i = 1 so 2;end", " 26 at 0");
    says("do i = 1 to 2 my 3;end", " 26 at 0");
    says("do 1 whale;end", " 26 at 0");
    for (String name : new String[] {"lengt", "lengthh", "mength", "lengtg", "wor", "word1", "wordz",
        "pox", "copie", "mas", "mid", "ab", "substring"}) {
      gives(name + "(1)", "error 43");
    }
  }

  /** signal name; signal on c; signal off c. */
  private static void signalsTold() {
    says("signal on;on:;say 1", "1/");
    says("signal off;off:;say 1", "1/");
    says("signal syntax;syntax:;say 1", "1/");
    says("signal on syntax;say 1;syntax:", "1/");
    says("signal off novalue;say 1", "1/");
    says("signal on halt", " 20 at 0");
    says("signal no syntax", " 20 at 0");
    says("signal on 'syntax'", " 20 at 0");
    says("signal 1", " 20 at 0");
    says("signal a.b", " 20 at 0");
    says("signal 'a'", " 20 at 0");
  }

  /** Call name, with arguments parted by commas, perhaps none; none is left out between commas. */
  private static void argumentsOfCalls() {
    says("call f;exit;f:;parse arg a;say a'.';return", "./");
    says("call f '';exit;f:;parse arg a;say a'.';return", "./");
    says("call f 1;exit;f:;parse arg a, b;say a b'.';return", "1 ./");
    says("call f 1,2;exit;f:;parse arg a, b;say a b'.';return", "1 2./");
    says("call f (1);exit;f:;parse arg a;say a;return", "1/");
    says("call f(1);exit;f:;parse arg a;say a;return", "1/");
    says("call f (1,2)", " 20 at 0");
    says("say f(1,2);exit;f:;parse arg a, b;return a b", "1 2/");
    none("f(1,,2)");
    none("f(,1)");
    none("f(1,)");
    none("f(,)");
    says("call 5", " 20 at 0");
    says("call 'f'", " 20 at 0");
    says("call f.", " 20 at 0");
  }

  /** Names of do, pull, parse and drop may be elements and stems, too. */
  private static void elementsAndStemsAsNames() {
    says("do x.1 = 1 to 1;say x.1;end;say x.1", "1/2/");
    says("do x. = 1 to 1;say x.7;end;say x.", "1/2/");
    says("queue 5;pull x.1;say x.1", "5/");
    says("queue 5;pull x.;say x.9", "5/");
    says("parse value 1 2 with x.1 x.;say x.1 x.2", "2 2/");
    says("x.1 = 3;parse var x.1 a;say a", "3/");
    says("x. = 3;parse var x. a;say a", "3/");
    says("x. = 3;x.1 = 4;drop x.1;say x.1;drop x.;say x.1", "3/x.1/");
    says("x. = 3;call f;exit;f:;procedure expose x.;say x.1;return", "3/");
  }

  /** To and by in a do with a name, while in each do, and with end an expression outside brackets. */
  private static void wordsThatEndExpressions() {
    says("to = 3;do to;say 1;end", "1/1/1/");
    says("by = 2;do by + 1;say 1;end", "1/1/1/");
    says("with = 2;do i = with to with;say i;end", "2/");
    says("while = 1;do (while);say 1;end", "1/");
    says("while = 1;do while", " 20 at 1");
    says("to = 2;do i = (to) to (to);say i;end", "2/");
    says("to = 2;do i = to to 2;end", " 20 at 1");
    says("by = 2;do i = (by) by 1 to 2;end", " 20 at 1");
    says("by = 2;do i = 1 to (by) by (by);say i;end", "1/");
    says("parse value (with) with a;say a", "with/");
    says("parse value with with a", " 20 at 0");
    says("parse value 1 with with;say with", "1/");
    says("say to by while with", "to by while with/");
    says("do i = 1 to 1 while(1);say i;end", "1/");
    says("do i = to(1);end", " 20 at 0");
  }

  // ---- Expressions

  private static final String[] OPERATORS = {
    "**", "*", "/", "%", "//", "+", "-", "||", " ", "=", "~=", "<", ">", "<=", ">=", "==", "&", "|"
  };
  /** Where it makes no difference which one is done first. */
  private static final String ALIKE = ";**;++;+-;&&;||;";
  private static final int[] STRENGTHS = {8, 7, 7, 7, 7, 6, 6, 5, 5, 4, 4, 4, 4, 4, 4, 4, 3, 2};

  /** Of two operators the stronger one has the operand between them, the left one if none is. */
  private static void strengthsOfTwo() {
    String[] operands = {"0", "1", "2", "7"};
    for (int i = 0; i < OPERATORS.length; i++) {
      for (int k = 0; k < OPERATORS.length; k++) {
        boolean isLeft = STRENGTHS[i] >= STRENGTHS[k];
        boolean isTold = false;
        for (int m = 0; m < 64; m++) {
          String a = operands[m % 4] + OPERATORS[i];
          String b = operands[m / 4 % 4];
          String c = OPERATORS[k] + operands[m / 16];
          String left = worth("(" + a + b + ")" + c);
          String right = worth(a + "(" + b + c + ")");
          isTold |= !left.equals(right);
          due(a + b + c, worth(a + b + c), isLeft ? left : right);
        }
        boolean isTheSame = STRENGTHS[i] == 5 && STRENGTHS[k] == 5
            || ALIKE.contains(";" + OPERATORS[i] + OPERATORS[k] + ";");
        due(OPERATORS[i] + " and " + OPERATORS[k] + " are told apart", isTold, !isTheSame);
      }
    }
  }

  private static String worth(String expression) {
    Rexworth x = new Rexworth();
    type(x, expression);
    return reckoned(x, 9);
  }

  /** A prefix is stronger than all operators. */
  private static void strengthsOfPrefixes() {
    for (String operator : OPERATORS) {
      due("- and " + operator, worth("-1" + operator + "2"), worth("(-1)" + operator + "2"));
      due("+ and " + operator, worth("+1.0" + operator + "2"), worth("(+1.0)" + operator + "2"));
      due("~ and " + operator, worth("~0" + operator + "2"), worth("(~0)" + operator + "2"));
      due("~ and " + operator, worth("~1" + operator + "0"), worth("(~1)" + operator + "0"));
      due(operator + " and ~", worth("1" + operator + "~0"), worth("1" + operator + "(~0)"));
      if (!operator.equals(" ")) {
        due(operator + " and -", worth("2" + operator + "-1"), worth("2" + operator + "(-1)"));
      }
    }
  }

  /** From the strongest on: prefixes, **, * / % //, + -, texts, comparisons, &, |. */
  private static void strengths() {
    gives("-2**2", "4");
    gives("2**-1", "0.5");
    gives("~0 1", "1 1");
    gives("2*3**2", "18");
    gives("2**3*2", "16");
    gives("12/2*3", "18");
    gives("12%5*2", "4");
    gives("12//5*2", "4");
    gives("2+3*4", "14");
    gives("2-3//2", "1");
    gives("1+2||3", "33");
    gives("1||5+7", "112");
    gives("1||2=12", "1");
    gives("1 2=1||' '||2", "1");
    gives("1=1&0", "0");
    gives("0&0=0", "0");
    gives("1|0&0", "1");
    gives("0=0|2=1&1", "1");
    gives("1&1=1", "1");
  }

  /** Texts stand behind each other with one blank between if there are blanks; ~ begins one, too. */
  private static void textsPutTogether() {
    gives("1 2", "1 2");
    gives("1'a'", "1a");
    gives("1 || 2", "12");
    gives("1 ~0", "1 1");
    gives("1~0", "11");
    gives("1 ~ ~ 0", "1 0");
    gives("1 -1", "0");
    gives("1 +1", "2");
    gives("(1)(2)", "12");
    gives("(1) (2)", "1 2");
    gives("a (1)", "a 1");
    gives("'' ''", " ");
    gives("''''", "");
  }

  /** All but prefixes go from left to right. */
  private static void fromLeftToRight() {
    gives("2**3**2", "64");
    gives("2**2**0", "1");
    gives("8/4/2", "1");
    gives("8-4-2", "2");
    gives("8%3%2", "1");
    gives("9//5//3", "1");
    gives("3>2>1", "0");
    gives("1=1=1", "1");
    gives("2==2==1", "1");
    gives("- + - 5", "5");
    gives("~~1", "1");
  }

  /** An operand is a number, a text, a word, an expression in brackets, or a call. */
  private static void operands() {
    none("");
    none(" ");
    none("()");
    none("(");
    none(")");
    none("(1");
    none("1)");
    none("((1)");
    none("+");
    none("1+");
    none("*1");
    none("1 2 *");
    none("1,2");
    none("(1,2)");
    none("a:");
    none("length('a'");
    none("length 'a')");
    gives(times("(", 29) + "12" + times(")", 29), "12");
    gives(times("-", 59) + "1", "-1");
    gives(times("~", 59) + "1", "0");
    gives(times("1", 60), times("1", 60));
    gives("1" + times("+1", 29), "30");
    gives("length (1)", "length 1");
    gives("length(1)", "1");
  }

  /** All operands are worked out, from the left. */
  private static void allOperands() {
    gives("0 & 1/0", "error 42");
    gives("1 | 1/0", "error 42");
    gives("1/0 + 'a'*1", "error 42");
    gives("'a'*1 + 1/0", "error 41");
    gives("2 & 1/0", "error 42");
    says("say f(1) + f(2);exit;f:;parse arg n;say n;return n", "1/2/3/");
    says("say 0 & f(1);exit;f:;say 5;return 1", "5/0/");
    says("call g f(1), f(2);exit;f:;parse arg n;say n;return n;g:;return", "1/2/");
  }

  // ---- Numbers

  /** Without blanks ahead and behind, perhaps a + or -, digits with perhaps one dot, one at least. */
  private static void whatIsANumber() {
    gives("'5'+0", "5");
    gives("'  5  '+0", "5");
    gives("'+5'+0", "5");
    gives("'-5'+0", "-5");
    gives("'.5'+0", "0.5");
    gives("'5.'+0", "5");
    gives("'-.5'+0", "-0.5");
    gives("' -5.e1 '+0", "-50");
    String[] others = {
      "", " ", "+", "-", ".", "-.", "+-5", "--5", "+ 5", "5 5", "5-", "5.5.", "1.2.3", "..5", "a",
      "5a", "e5", ".e5", "5,5", "1/2"
    };
    for (String text : others) {
      gives("'" + text + "'+0", "error 41");
      gives("0*'" + text + "'", "error 41");
      gives("-'" + text + "'", "error 41");
      gives("+'" + text + "'", "error 41");
    }
  }

  /** Then perhaps 'e', perhaps + or -, and one or two digits. */
  private static void exponentsThatAreRead() {
    gives("'1e5'+0", "100000");
    gives("'1e05'+0", "100000");
    gives("'1e+5'+0", "100000");
    gives("'1e-5'+0", "0.00001");
    gives("'1e0'+0", "1");
    gives("'1e99'*1", "1e+99");
    gives("'1e-99'*1", "1e-99");
    gives("'.1e1'+0", "1");
    for (String text : new String[] {"1e", "1e+", "1e-", "1e100", "1e005", "1e-100", "1e+-5", "1e 5",
        "1 e5", "1e5.", "1e.5", "1e5e5", "1ee5", "1e5 5", "1f5", "1e5a"}) {
      gives("'" + text + "'+0", "error 41");
    }
  }

  /** Each number is rounded to as many digits as are set, 9 at first, 1 to 20. */
  private static void digitsThatAreSet() {
    says("say 1/3", "0.333333333/");
    says("digits 1;say 1/3", "0.3/");
    says("digits 20;say 1/3", "0.33333333333333333333/");
    says("digits 0", " 26 at 0");
    says("digits 21", " 26 at 0");
    says("digits -1", " 26 at 0");
    says("digits 1.5", " 26 at 0");
    says("digits ''", " 26 at 0");
    says("digits 'a'", " 26 at 0");
    says("digits '9e99'", " 26 at 0");
    says("digits '2.0e0';say 1/3", "0.33/");
    gives("1234567894+0", "1.23456789e+9");
    gives("1234567895+0", "1.23456790e+9");
    gives(20, "12345678901234567890+0", "12345678901234567890");
    gives(20, "123456789012345678905+0", "1.2345678901234567891e+20");
    gives(2, "149+149", "3.0e+2");
    gives(1, "15*1", "2e+1");
  }

  /** From its first digit that is not 0 on. */
  private static void zerosAheadAreNoDigits() {
    gives(3, "0.0012345+0", "0.00123");
    gives(3, "0001234+0", "1.23e+3");
    gives(3, "000123+0", "123");
    gives(3, "00.01004*1", "0.0100");
    gives(1, "000000.09+0", "0.09");
  }

  /** Halves going up without sign; the exact result is rounded likewise. */
  private static void halves() {
    gives(1, "1.5+0", "2");
    gives(1, "2.5+0", "3");
    gives(1, "-1.5+0", "-2");
    gives(1, "-2.5+0", "-3");
    gives(1, "1.49999+0", "1");
    gives(1, "-1.49999+0", "-1");
    gives(2, "1.05-0", "1.1");
    gives(3, "1/8*1.00", "0.125");
    gives(2, "1/8", "0.13");
    gives(2, "-1/8", "-0.13");
    gives(1, "5*5", "3e+1");
    gives(1, "5*3", "2e+1");
    gives(1, "5*.3", "2");
    gives(1, "7*.2", "1");
    gives(2, "99+0.5", "1.0e+2");
    gives(3, "15**2*1", "225");
    gives(2, "15**2*1", "2.3e+2");
    gives(1, "2/3", "0.7");
  }

  /** A number of nines alone is rounded over to a digit more. */
  private static void ninesRoundedOver() {
    gives("999999999.4+0", "999999999");
    gives("999999999.5+0", "1.00000000e+9");
    gives("-999999999.5+0", "-1.00000000e+9");
    gives(1, "9.5+0", "1e+1");
    gives(1, ".95+0", "1");
    gives(2, "9.95+0", "10");
    gives(2, "9.94+0", "9.9");
    gives(3, "0.0009999+0", "0.00100");
    gives("'9.9999999995e98'+0", "1.00000000e+99");
    gives("'9.9999999995e99'+0", "error 42");
  }

  /** The sum, difference and product keep as many decimals as they have. */
  private static void decimalsThatAreKept() {
    gives("1.50+1.50", "3.00");
    gives("1.5+1.50", "3.00");
    gives("1.25-0.25", "1.00");
    gives("1+0.00", "1.00");
    gives("0.00+1.5", "1.50");
    gives("1.0*1.0", "1.00");
    gives("1.50*2", "3.00");
    gives("100*0.01", "1.00");
    gives("1.10**2", "1.2100");
    gives("+1.50", "1.50");
    gives("-1.50", "-1.50");
    gives(3, "1.000+0", "1.00");
    gives("'1.50e1'+0", "15.0");
    gives("'1e1'+0.0", "10.0");
  }

  /** The quotient, and the power with an exponent below 0, lose zeros at the end of decimals. */
  private static void decimalsThatAreLost() {
    gives("1.50/1", "1.5");
    gives("1.00/1", "1");
    gives("10/4", "2.5");
    gives("100/10", "10");
    gives("1000/10", "100");
    gives("0.00/5", "0");
    gives("0.50/0.5", "1");
    gives("2**-2", "0.25");
    gives("0.50**-1", "2");
    gives("0.10**-2", "100");
    gives("2.0**-1", "0.5");
    gives(3, "1/1.001", "1");
    gives(3, "2000/1", "2.00e+3");
    gives(3, "1/4000", "0.00025");
    gives(2, "3/29", "0.1");
    gives(2, "13/44", "0.3");
  }

  /** '%' is the whole part of the quotient. */
  private static void wholeParts() {
    gives("7%2", "3");
    gives("-7%2", "-3");
    gives("7%-2", "-3");
    gives("-7%-2", "3");
    gives("1%2", "0");
    gives("-1%2", "0");
    gives("0%2", "0");
    gives("6%2", "3");
    gives("5.9%2", "2");
    gives("6.0%2.0", "3");
    gives(".9%.1", "9");
  }

  /** '//' is what is left, with the sign of the first one. */
  private static void whatIsLeft() {
    gives("7//2", "1");
    gives("-7//2", "-1");
    gives("7//-2", "1");
    gives("-7//-2", "-1");
    gives("1//2", "1");
    gives("-1//2", "-1");
    gives("0//2", "0");
    gives("-6//2", "0");
    gives("5.9//2", "1.9");
    gives("-5.9//2", "-1.9");
    gives("'1e-9'//1", "0.000000001");
  }

  /** Both are error 26 if the whole part has more digits than are set. */
  private static void wholePartsTooLong() {
    gives("999999999%1", "999999999");
    gives("'1e9'%1", "error 26");
    gives("'1e9'//1", "error 26");
    gives("'1e9'%1.1", "909090909");
    gives("'1e9'//1.1", "0.1");
    gives(1, "9%1", "9");
    gives(1, "'10'%1", "error 26");
    gives(1, "'1e1'//3", "1");
    gives(1, "'1e1'//1", "error 26");
    gives(20, "'1e19'%1", "10000000000000000000");
    gives(20, "'1e20'%1", "error 26");
    gives("'1e99'//'1e-99'", "error 26");
    gives("1%'1e-9'", "error 26");
    gives("1%'1e-8'", "100000000");
  }

  /** 0 to the power of 0 is 1. The exponent of a power is a whole number, -99 to 99. */
  private static void powers() {
    gives("0**0", "1");
    gives("0.00**0", "1");
    gives("7**0", "1");
    gives("0**1", "0");
    gives("0**99", "0");
    gives("0**-1", "error 42");
    gives("1**99", "1");
    gives("1**-99", "1");
    gives("1**100", "error 26");
    gives("1**-100", "error 26");
    gives("0**100", "error 26");
    gives("0**-100", "error 26");
    gives("1**'1e9'", "error 26");
    gives("1**1.5", "error 26");
    gives("1**.5", "error 26");
    gives("0**.5", "error 26");
    gives("1**'a'", "error 41");
    gives("2**3.00", "8");
    gives("2**'3e0'", "8");
    gives("-1**99", "-1");
    gives("-1**98", "1");
    gives("10**99", "1.00000000e+99");
    gives("'1e1'**99", "1e+99");
    gives("'1e2'**50", "error 42");
    gives("'1e-2'**50", "error 42");
    gives("10**-99", "1e-99");
    gives(20, "99999999999999999999**2", "9.9999999999999999998e+39");
    gives(20, "98765432109876543210**5", "9.3977706247149176702e+99");
    gives("2+3+0**2", "5");
  }

  /** Without an exponent if its digits ahead of the dot are no more than are set. */
  private static void digitsAheadOfTheDot() {
    gives("999999999+0", "999999999");
    gives("999999999+1", "1.00000000e+9");
    gives("'1e8'+0", "100000000");
    gives("'1e9'+0", "1.00000000e+9");
    gives("'1e9'*1", "1e+9");
    gives(1, "9+0", "9");
    gives(1, "9+1", "1e+1");
    gives(20, "99999999999999999999+0", "99999999999999999999");
    gives(20, "99999999999999999999+1", "1.0000000000000000000e+20");
    gives("-999999999-1", "-1.00000000e+9");
  }

  /** And its decimals no more than twice that. */
  private static void decimalsBehindTheDot() {
    gives(1, ".01+0", "0.01");
    gives(1, ".001+0", "1e-3");
    gives(3, ".000001*1", "0.000001");
    gives(3, ".0000001*1", "1e-7");
    gives(3, ".0000012*1", "1.2e-6");
    gives(3, ".000100*1", "0.000100");
    gives(3, ".0001000*1", "0.000100");
    gives(20, "'1e-40'*1", "0." + times("0", 39) + "1");
    gives(20, "'1e-41'*1", "1e-41");
    gives("'1e-18'*1", "0.000000000000000001");
    gives("'1e-19'*1", "1e-19");
    gives("'1.0e-18'*1", "1.0e-18");
  }

  /** One digit, perhaps a dot and the others that it has, zeros that were rounded to, too. */
  private static void writtenWithAnExponent() {
    gives("'5e9'*1", "5e+9");
    gives("'5.0e9'*1", "5.0e+9");
    gives("'-5.25e-30'*1", "-5.25e-30");
    gives(3, "1000+0", "1.00e+3");
    gives(3, "1234+0", "1.23e+3");
    gives(2, "1000+0", "1.0e+3");
    gives(1, "1000+0", "1e+3");
    gives("'1e10'*1", "1e+10");
    gives("'1e10'+0", "1.00000000e+10");
    gives("'1e10'+1", "1.00000000e+10");
    gives("'1e10'*'1e-20'", "0.0000000001");
    gives("'1e-10'*'1e-10'", "1e-20");
  }

  /** 0 is written '0'. */
  private static void zero() {
    for (String text : new String[] {"0", "00", "0.00", "-0", "-0.00", "0e9", "0e-99", "+.0"}) {
      gives("'" + text + "'+0", "0");
      gives("-'" + text + "'", "0");
      gives("'" + text + "'*1.50", "0");
    }
    gives("1.50-1.50", "0");
    gives("'1e99'-'1e99'", "0");
    gives("-1*0", "0");
    gives("0/-5", "0");
  }

  /** '=' and the like compare two numbers as their difference, rounded, does to 0. */
  private static void numbersCompared() {
    gives("1=1.000", "1");
    gives("' 1 '='+1e0'", "1");
    gives("0='-0.0'", "1");
    gives("1000000000=1000000001", "1");
    gives("1000000000=1000000010", "0");
    gives(20, "1000000000=1000000001", "0");
    gives(3, "1.001<1.004", "0");
    gives(3, "1.001<1.005", "1");
    gives("10>9", "1");
    gives("-10>-9", "0");
    gives("-1<0", "1");
    gives("0<-1", "0");
    gives("1>=1.0", "1");
    gives("1<=1.0", "1");
    gives("1<=2", "1");
    gives("2<=1", "0");
    gives("1>=2", "0");
    gives("2>=1", "1");
    gives("1<2", "1");
    gives("2<1", "0");
    gives("1>2", "0");
    gives("2>1", "1");
    gives("1=2", "0");
    gives("1~=2", "1");
    gives("1~=1.0", "0");
    gives("1<1.0", "0");
    gives("1>1.0", "0");
    gives("'1e99'>'1e-99'", "1");
    gives("'9e99'>'-9e99'", "1");
    gives("'1e-99'=0", "0");
  }

  /** Other texts without blanks ahead and behind, the shorter one as if it had blanks behind. */
  private static void textsCompared() {
    gives("''='  '", "1");
    gives("'a'='  a  '", "1");
    gives("'a b'='ab'", "0");
    gives("'a'<'ab'", "1");
    gives("'ab'>'a'", "1");
    gives("''<'a'", "1");
    gives("'a'<'b'", "1");
    gives("'b'<'a'", "0");
    gives("'aa'<'b'", "1");
    gives("'9x'<'a'", "1");
    gives("'10x'<'9'", "1");
    gives("'a 1'<'a1'", "1");
    gives("'1e100'='1e0100'", "0");
    gives("''=0", "0");
    gives("'.'<'0'", "1");
    gives("'a'<='a '", "1");
    gives("' a'>='a'", "1");
  }

  /** '==' compares texts as they are. They give '1' or '0'. */
  private static void sameTexts() {
    gives("1==1", "1");
    gives("1==1.0", "0");
    gives("'a'=='a '", "0");
    gives("' a'=='a'", "0");
    gives("''==''", "1");
    gives("''==' '", "0");
    gives("'ab'=='a'", "0");
    gives("'a'=='b'", "0");
    gives("'ab'=='ac'", "0");
    gives("'ab'=='bb'", "0");
    gives("'abc'=='abc'", "1");
    gives("1==01", "0");
  }

  /** '&', '|' and '~' take such alone, without blanks. */
  private static void truths() {
    gives("1&1", "1");
    gives("1&0", "0");
    gives("0&1", "0");
    gives("0&0", "0");
    gives("1|1", "1");
    gives("1|0", "1");
    gives("0|1", "1");
    gives("0|0", "0");
    gives("~1", "0");
    gives("~0", "1");
    for (String text : new String[] {"", " ", "2", "-1", "01", "1.0", " 1", "1 ", "0 ", "a", "11"}) {
      gives("'" + text + "'&1", "error 34");
      gives("0&'" + text + "'", "error 34");
      gives("'" + text + "'|1", "error 34");
      gives("1|'" + text + "'", "error 34");
      gives("~'" + text + "'", "error 34");
    }
  }

  // ---- Variables

  /** A word without a dot is a name, whose value is, if it was not set, the name. */
  private static void namesNotSet() {
    says("say a", "a/");
    says("a = '';say a'.'", "./");
    says("a = b;say a", "b/");
    says("a = a;drop a;say a", "a/");
    due("a set name", value(ran("a = a"), "a"), "=a");
    due("a name that was not set", value(ran("b = a"), "a"), "-a");
    due("a name set to nothing", value(ran("a = ''"), "a"), "=");
  }

  /** A stem, up to and with its first dot, and a tail: each part that is a name has its value. */
  private static void tails() {
    says("i = 2;x.i = 5;say x.2 x.i x.j", "5 5 x.j/");
    says("i = 2;j = 3;x.i.j = 5;say x.2.3", "5/");
    says("i = '2.3';x.i = 5;say x.2.3", "5/");
    says("i = 'a b';x.i = 5;j = 'a b';say x.j", "5/");
    says("a1 = 2;x.a1 = 5;x.1a = 6;say x.2 x.1a", "5 6/");
    says("x..1 = 5;i = '';say x.i.1", "5/");
    says("x.1. = 5;i = '1.';say x.i", "5/");
    says("i = '';x. = 1;x.i = 2;say x. x.i", "1 2/");
    says("x.i = 1;i = 'k';say x.i", "x.k/");
    says("signal on novalue;x.i = 1;say x.i;novalue:", "1/");
    says("x = 1;x. = 2;x.x = 3;say x x. x.1", "1 2 3/");
    says("x.y. = 1;say x.y. x.y", "1 x.y/");
    says("y. = 1;say x.y.", "x.y./");
  }

  /** A stem alone that is set gives all its elements that value, those told ahead too. */
  private static void stems() {
    says("x.1 = 1;x. = 5;say x.1 x.2 x.", "5 5 5/");
    says("x. = 5;x.1 = 1;say x.1 x.2 x.", "1 5 5/");
    says("x. = '';say x.1'.'", "./");
    says("x. = 5;x.1 = '';say x.1'.'", "./");
    says("x.1 = '';say x.1'.'", "./");
    says("x.1 = 1;say x.2 x.", "x.2 x./");
    says("x. = 5;i = 3;say x.i.i", "5/");
    due("an element of a stem that was set", value(ran("x. = 5"), "x.9"), "=5");
    due("an element ahead", value(ran("x.9 = 4;x. = 5"), "x.9"), "=5");
    due("an element of none", value(ran("x.9 = 4"), "x.8"), "-x.8");
    due("a stem alone", value(ran("x.9 = 4"), "x."), "-x.");
  }

  /** To drop a name or an element lets it be as never set, a stem with all its elements. */
  private static void drops() {
    says("drop a;say a", "a/");
    says("a = 1;drop a a;say a", "a/");
    says("a = 1;b = 2;drop a b;say a b", "a b/");
    says("x.1 = 1;x.2 = 2;drop x.1;say x.1 x.2", "x.1 2/");
    says("x. = 5;x.1 = 1;drop x.1;say x.1", "5/");
    says("x. = 5;x.1 = 1;drop x.;say x.1 x.2 x.", "x.1 x.2 x./");
    says("x.1 = 1;drop x.;x.2 = 2;say x.1 x.2", "x.1 2/");
    says("x.1 = 1;i = 1;drop x.i;say x.1", "x.1/");
    says("x.1 = 1;drop x;say x.1", "1/");
    due("as never set", value(ran("a = 1;drop a"), "a"), "-a");
    due("as never set, an element", value(ran("x.1 = 1;drop x.1"), "x.1"), "-x.1");
    due("as never set, a stem", value(ran("x. = 1;x.1 = 2;drop x."), "x.1"), "-x.1");
  }

  // ---- Blocks

  /** 'if' is done by '1', up to its 'else' or 'end'. */
  private static void ifs() {
    counts("if 1;say 1;else;say 2;end;say 3", "4: 1 1 1 0 0 1");
    counts("if 0;say 1;else;say 2;end;say 3", "4: 1 0 0 1 1 1");
    counts("if 0;say 1;end;say 3", "2: 1 0 0 1");
    counts("if 1;say 1;end", "3: 1 1 1");
    counts("if 1;else;end", "2: 1 1 0");
    counts("if 0;else;end", "2: 1 0 1");
    counts("if 1;end", "2: 1 1");
    for (String text : new String[] {"2", "''", "' 1'", "'1 '", "1.0", "01", "-1", "a"}) {
      says("if " + text + ";end", " 34 at 0");
    }
  }

  /** Where an 'if' or 'do' is met, its end is looked for first. */
  private static void endsLookedFor() {
    says("if 1", " 10 at 0");
    says("do", " 10 at 0");
    says("if 1/0", " 10 at 0");
    says("do 1/0", " 10 at 0");
    says("do while 1/0", " 10 at 0");
    says("do i = 1/0", " 10 at 0");
    says("if 1;else", " 10 at 0");
    says("if 1;do;end", " 10 at 0");
    says("do;if 1;end", " 10 at 0");
    says("do;do;end;end;say 1", "1/");
    says("if 0;f:;;end;say 1", "1/");
    says("end;if 1", " 10 at 0");
  }

  /** Lines that are no clause count for nothing there. */
  private static void noClausesAreNoBlocks() {
    says("if 0;if;end;say 1", "1/");
    says("if 0;do i =;end;say 1", "1/");
    says("if 0;end 1;end;say 1", "1/");
    says("if 0;else 1;say 2;end;say 1", "1/");
    says("if 1;end 1", " 10 at 0");
    says("if 0;if = 1;end = 2;do = 3;end;say 1", "1/");
    says("if 0;end:;say 2;end;say 1", "1/");
    says("if 0;'end';end;say 1", "1/");
  }

  /** An 'else' that is come to goes behind the end, and is a step; 10 without its beginning. */
  private static void elses() {
    counts("if 1;if 1;else;say 1;end;else;say 2;end", "4: 1 1 1 0 0 1 0 0");
    counts(2, "if 1;else;end;say 1", "2: 1 1 0 0 over 3");
    counts(1, "if 1;else;end;say 1", "1: 1 0 0 0 over 1");
    says("else", " 10 at 0");
    says("end", " 10 at 0");
    says("do;else;end", " 10 at 1");
    says("if 1;end;end", " 10 at 2");
    says("if 1;end;else", " 10 at 2");
    says("if 1;do 1;else;end;end", " 10 at 2");
    says("do 1;call f;end;exit;f:;end", " 10 at 5");
    says("if 1;call f;end;exit;f:;else", " 10 at 5");
  }

  /** 'do e' does so many times, a whole number, 0 at least. A plain 'do' is done once. */
  private static void dosWithANumber() {
    counts("do;say 1;end;say 2", "4: 1 1 1 1");
    counts("do 0;say 1;end;say 2", "2: 1 0 0 1");
    counts("do 1;say 1;end;say 2", "4: 1 1 1 1");
    counts("do 2;say 1;end;say 2", "7: 2 2 2 1");
    counts("do '1.0';end", "2: 1 1");
    counts("do '0e9';end", "1: 1 0");
    counts("do ' 2 ';end", "4: 2 2");
    counts("do '9e99';end", "2000: 1000 1000 over 0");
    counts("do 1 = 1;end", "2: 1 1");
    says("do -1;end", " 26 at 0");
    says("do 0.5;end", " 26 at 0");
    says("do '';end", " 26 at 0");
    says("do 'a';end", " 26 at 0");
    says("do -0;end;say 1", "1/");
  }

  /** With a name it begins with that value, goes up by 1, or what is told. */
  private static void dosWithAName() {
    says("do i = 1 to 2;say i;end;say i", "1/2/3/");
    says("do i = '007.0' to 8;say i;end", "7.0/8.0/");
    says("do i = 1 to 2 by .5;say i;end;say i", "1/1.5/2.0/2.5/");
    says("do i = 2 by 3 while i < 9;say i;end", "2/5/8/");
    says("do i = 1;say i;leave;end;say i", "1/1/");
    says("do i = -1 to 1;say i;end", "-1/0/1/");
    says("digits 2;do i = 98 to 99;say i;end;say i", "98/99/1.0e+2/");
    says("do i = '9e99' by '9e99';end", " 42 at 0");
    says("do i = 'a';end", " 26 at 0");
    says("do i = '';end", " 26 at 0");
    says("do i = 1 to 'a';end", " 26 at 0");
    says("do i = 1 by 'a';end", " 26 at 0");
  }

  /** As long as it is not above what is told, or not below, if it goes down. */
  private static void limitsOfDos() {
    counts("do i = 2 to 1;end", "1: 1 0");
    counts("do i = 1 to 1;end", "2: 1 1");
    counts("do i = 1 to 2 by 5;end", "2: 1 1");
    counts("do i = 1 to 2 by -1;end", "1: 1 0");
    counts("do i = 2 to 2 by -1;end", "2: 1 1");
    counts("do i = 2 to 1 by -1;end", "4: 2 2");
    counts("do i = 1 to 1.5;end", "2: 1 1");
    counts(9, "do i = 1 to 1 by 0;end", "9: 5 4 over 1");
    counts("do i = 2 to 1 by 0;end", "1: 1 0");
    counts(9, "do i = 1;end", "9: 5 4 over 1");
    counts(9, "do i = 1 by -1;end", "9: 5 4 over 1");
    due("a name that is above at once is set", value(ran("do i = 5 to 1;end"), "i"), "=5");
  }

  /** All of these are worked out once, in their order, as numbers. */
  private static void dosAreWorkedOutOnce() {
    says("do i = f(1) to f(3) by f(2);say 'd';end;exit;f:;parse arg n;say n;return n",
        "1/3/2/d/d/");
    says("n = 2;do n;n = 5;say 1;end", "1/1/");
    says("n = 2;do i = 1 to n;n = 5;say i;end", "1/2/");
    says("n = 1;do i = 1 to 3 by n;n = 5;say i;end", "1/2/3/");
    says("do i = 1/0 to 'a';end", " 42 at 0");
    says("do i = 1 to 1/0 by 'a';end", " 42 at 0");
  }

  /** For the next time the name goes up from what it has then. */
  private static void namesGoUp() {
    says("do i = 1 to 9;say i;i = i * 2;end;say i", "1/3/7/15/");
    says("do i = 1 to 3;i = '';end", " 26 at 0");
    says("do i = 1 to 3;drop i;end", " 26 at 0");
    says("do x.1 = 1 to 2;say x.1;x. = 7;end;say x.1", "1/8/");
    counts(5, "do i = 1 to 3;i = ' 2 ';end", "5: 2 2 1 over 2");
  }

  /** 'while' is looked at ahead of each time, behind the other, and then the step is counted. */
  private static void whiles() {
    counts("do while 0;end", "1: 1 0");
    counts("do 1 while 0;end", "1: 1 0");
    counts("do 0 while 'a';end", "1: 1 0");
    counts("do i = 1 while i < 2;end", "2: 1 1");
    counts("do i = 2 to 1 while 'a';end", "1: 1 0");
    counts("do 2 while 1;end", "4: 2 2");
    counts("do while i = 'i';i = 1;end", "3: 1 1 1");
    counts("do 1 while 1/(2-i);end", "1: 1 0 41 at 0");
    says("do i = 1 while 2 - i;say i;end;say i", "1/2/");
    says("do while 2;end", " 34 at 0");
    says("do while '';end", " 34 at 0");
    says("do i = 1 while 3 - i;end", " 34 at 0");
    String asking = "do i = 1 while f();end;exit;f:;say i;return 1";
    counts(6, asking, "6: 1 1 0 0 2 2 over 0");
    counts(5, asking, "5: 1 1 0 0 2 1 over 5");
    counts(4, asking, "4: 1 1 0 0 1 1 over 4");
    counts(3, asking, "3: 1 0 0 0 1 1 over 1");
  }

  /** 'leave' goes behind the 'end' of the innermost 'do' that is no plain one; 28 outside. */
  private static void leaves() {
    counts("do 5;leave;end;say 1", "3: 1 1 0 1");
    counts("do while 1;leave;end;say 1", "3: 1 1 0 1");
    counts("do i = 1;leave;end;say 1", "3: 1 1 0 1");
    says("do 2;do;leave;end;say 1;end;say 2", "2/");
    says("do 2;if 1;leave;end;say 1;end;say 2", "2/");
    says("do 2;do 2;leave;end;say 1;end;say 2", "1/1/2/");
    says("leave", " 28 at 0");
    says("do;leave;end", " 28 at 1");
    says("if 1;leave;end", " 28 at 1");
    says("do 1;end;leave", " 28 at 2");
    says("do 1;end;if 1;leave;end", " 28 at 3");
    says("do 1;call f;end;exit;f:;leave", " 28 at 5");
  }

  /** 'iterate' goes to its next time. */
  private static void iterates() {
    counts("do 2;iterate;say 1;end;say 2", "5: 2 2 0 0 1");
    counts("do 1;iterate;end", "2: 1 1 0");
    says("do i = 1 to 3;if i = 2;iterate;end;say i;end", "1/3/");
    says("do i = 1 to 2;do;iterate;end;say 1;end;say i", "3/");
    says("do i = 1 to 2;do 2;iterate;end;say i;end", "1/2/");
    says("do i = 1 while i < 3;iterate;end;say i", "3/");
    says("iterate", " 28 at 0");
    says("do;iterate;end", " 28 at 1");
    says("if 1;iterate;end", " 28 at 1");
    says("do 1;call f;end;exit;f:;iterate", " 28 at 5");
  }

  // ---- Calls

  /** A call of a name is of the label with that name, the first one. */
  private static void firstLabels() {
    says("call f;exit;f:;say 1;return;f:;say 2;return", "1/");
    says("f:;say 1;if length(i) = 1;i = 22;call f;end", "1/1/");
    says("say f();exit;f :;return 1;f:;return 2", "1/");
    says("say f.g();exit;f.g:;return 1", "1/");
    says("call f;say 1;f:", "");
    due("in a label at the end the call is under way", ran("call f;f:").depth(), 1);
  }

  /** Of a function that is built in, if there is none; 43 there is no such function. */
  private static void functionsBuiltIn() {
    says("call length 'abc';say result", "3/");
    says("call length 'abc';say result;exit;length:;return 'mine'", "mine/");
    says("say length('abc');exit;length:;return 'mine'", "mine/");
    says("call f", " 43 at 0");
    says("say f()", " 43 at 0");
    says("f = 1;say f()", " 43 at 1");
    says("call lengt 'a'", " 43 at 0");
    says("call lengths 'a'", " 43 at 0");
    says("call f 1/0", " 42 at 0");
    gives("length.('a')", "error 43");
  }

  /** 40 an argument of a built-in function is wrong, or their number. */
  private static void numbersOfArguments() {
    String[] names = {"length", "words", "word", "substr", "copies", "pos", "abs", "max", "min"};
    int[] due = {1, 1, 2, 3, 2, 2, 1, 2, 2};
    for (int i = 0; i < names.length; i++) {
      for (int given = 0; given < 5; given++) {
        String ones = given == 0 ? "" : "1" + times(",1", given - 1);
        Rexworth x = new Rexworth();
        type(x, names[i] + "(" + ones + ")");
        due(names[i] + " of " + given, x.reckon(9) == -40, given != due[i]);
      }
      says("call " + names[i], " 40 at 0");
    }
  }

  /** length(t), words(t). */
  private static void lengthAndWords() {
    gives("length('')", "0");
    gives("length(' ')", "1");
    gives("length(a)", "1");
    gives("length(copies('a',9))", "9");
    gives("length(copies('a',10))", "10");
    gives("length(copies('a',99))", "99");
    gives("length(copies('a',100))", "100");
    gives("length(copies('a',200))", "200");
    gives("words('')", "0");
    gives("words(' ')", "0");
    gives("words('a')", "1");
    gives("words(' a  b ')", "2");
    gives("words(copies('a ',100))", "100");
  }

  /** word(t,n). */
  private static void wordsByNumber() {
    gives("word('a bc',1)", "a");
    gives("word(' a  bc ',2)", "bc");
    gives("word('a bc',3)", "");
    gives("word('',1)", "");
    gives("word(' ',1)", "");
    gives("word('a','9e99')", "");
    gives("word('a b','2.0')", "b");
    for (String number : new String[] {"0", "-1", "1.5", ".5", "'a'", "''"}) {
      gives("word('a b'," + number + ")", "error 40");
    }
  }

  /** substr(t,n,m) with blanks behind. */
  private static void pieces() {
    gives("substr('abc',1,3)", "abc");
    gives("substr('abc',1,0)", "");
    gives("substr('abc',3,1)", "c");
    gives("substr('abc',3,2)", "c ");
    gives("substr('abc',4,1)", " ");
    gives("substr('abc','9e99',1)", " ");
    gives("substr('',1,2)", "  ");
    gives("substr('abc',1,4)", "abc ");
    gives("length(substr('',1,200))", "200");
    gives("substr('',1,201)", "error 45");
    gives("substr('abc',0,1)", "error 40");
    gives("substr('abc',-1,1)", "error 40");
    gives("substr('abc',1.5,1)", "error 40");
    gives("substr('abc',a,1)", "error 40");
    gives("substr('abc',1,-1)", "error 40");
    gives("substr('abc',1,.5)", "error 40");
    gives("substr('abc',1,a)", "error 40");
  }

  /** copies(t,n). */
  private static void manyCopies() {
    gives("copies('ab',0)", "");
    gives("copies('ab',1)", "ab");
    gives("copies('ab',2)", "abab");
    gives("copies('',0)", "");
    gives("copies('',9999)", "");
    gives("length(copies('a',200))", "200");
    gives("copies('a',201)", "error 45");
    gives("length(copies('abc',66))", "198");
    gives("copies('abc',67)", "error 45");
    gives("copies('ab','9e99')", "error 45");
    gives("copies('ab',-1)", "error 40");
    gives("copies('ab',1.5)", "error 40");
    gives("copies('ab',a)", "error 40");
  }

  /** pos(t,u) the place of t in u, 0 for none. */
  private static void placesInTexts() {
    gives("pos('a','abc')", "1");
    gives("pos('c','abc')", "3");
    gives("pos('bc','abc')", "2");
    gives("pos('b','abcb')", "2");
    gives("pos('abc','abc')", "1");
    gives("pos('abcd','abc')", "0");
    gives("pos('d','abc')", "0");
    gives("pos('cd','abc')", "0");
    gives("pos('a','')", "0");
    gives("pos('aab','aaab')", "2");
    gives("pos('b',copies('a',199)'b')", "200");
  }

  /** abs(n), max(n,m), min(n,m). */
  private static void numbersByFunctions() {
    gives("abs(0)", "0");
    gives("abs('-0')", "0");
    gives("abs(-5)", "5");
    gives("abs(+5)", "5");
    gives(3, "abs('-1234')", "1.23e+3");
    gives("max(1,2)", "2");
    gives("max(2,1)", "2");
    gives("max(-1,-2)", "-1");
    gives("max(2,2)", "2");
    gives("min(1,2)", "1");
    gives("min(2,1)", "1");
    gives("min(-1,-2)", "-2");
    gives("min('1e-99',0)", "0");
    for (String text : new String[] {"''", "a", "'1e100'"}) {
      gives("abs(" + text + ")", "error 40");
      gives("max(" + text + ",1)", "error 40");
      gives("max(1," + text + ")", "error 40");
      gives("min(" + text + ",1)", "error 40");
      gives("min(1," + text + ")", "error 40");
    }
  }

  /** What is called has the arguments; without any of its own a run's are not seen there. */
  private static void argumentsAreOfTheCall() {
    Rexworth x = program("parse arg a;call f;call f 2;parse arg b;say a b;exit;f:;parse arg c;say c'.';return");
    type(x, "one");
    x.argument();
    x.run(2000);
    due("arguments of a run and of calls", said(x), "./2./one one/");
  }

  /** 'procedure', as its first clause, labels and empty lines aside; 17 elsewhere. */
  private static void procedures() {
    says("call f;exit;f:;procedure;say 1;return", "1/");
    says("call f;exit;f:;;  ;g:;h :;procedure;say 1;return", "1/");
    says("say f();exit;f:;procedure;return 1", "1/");
    says("procedure", " 17 at 0");
    says("f:;;procedure", " 17 at 2");
    says("call f;procedure;f:;return", " 17 at 1");
    says("call f;f:;procedure;procedure", " 17 at 3");
    says("call f;f:;procedure;say 1;procedure", "1/ 17 at 4");
    says("call f;f:;say 1;procedure", "1/ 17 at 3");
    says("call f;f:;do;procedure;end", " 17 at 3");
    says("call f;f:;interpret '';procedure", " 17 at 3");
    says("call f;f:;signal g;g:;procedure", " 17 at 4");
  }

  /** New variables, of which those that are exposed, names and stems, are the caller's. */
  private static void exposedNames() {
    String called = ";say a x.1;exit;f:;procedure";
    String inner = ";say a x.1;a = 3;x.1 = 4;return";
    says("a = 1;x.1 = 2;call f" + called + inner, "a x.1/1 2/");
    says("a = 1;x.1 = 2;call f" + called + " expose a" + inner, "1 x.1/3 2/");
    says("a = 1;x.1 = 2;call f" + called + " expose x." + inner, "a 2/1 4/");
    says("a = 1;x.1 = 2;call f" + called + " expose a x." + inner, "1 2/3 4/");
    says("a = 1;x.1 = 2;call f" + called + " expose a. x" + inner, "a x.1/1 2/");
    says("call f" + called + " expose a x." + inner, "a x.1/3 4/");
    says("a = 1;call f" + called + " expose a a;drop a;return", "a x.1/");
    says("call f;say a b c d;exit;f:;procedure expose a b c;a = 1;b = 2;c = 3;d = 4;return",
        "1 2 3 d/");
    says("call f;say a ab b;exit;f:;procedure expose ab;a = 1;ab = 2;b = 3;return", "a 2 b/");
    says("x. = 1;x.1 = 2;call f" + called + " expose x.;drop x.;return", "a x.1/");
  }

  /** 'return' gives a value: 'call' sets result to it, or drops it without one. */
  private static void results() {
    says("call f;say result;exit;f:;return 1", "1/");
    says("call f;say result'.';exit;f:;return ''", "./");
    says("result = 1;call f;say result;exit;f:;return", "result/");
    says("call f;call g;say result;exit;f:;return 1;g:;return", "result/");
    due("result is dropped", value(ran("result = 1;call f;exit;f:;return"), "result"), "-result");
    says("a = f();say result;exit;f:;return 1", "result/");
  }

  /** A function needs one; 44 a function that returned nothing. */
  private static void functionsWithoutAValue() {
    says("say f();f:;return", " 44 at 0");
    says("call g f();f:;return", " 44 at 0");
    says("say f();exit;f:;return ''", "/");
    says("call f;say 1;exit;f:;say g();return;g:;return", " 44 at 4");
  }

  /** What is done in a function is nothing to what its caller works with. */
  private static void clausesInFunctions() {
    String[] clauses = {"digits 3", "pull a", "push 1", "queue 1", "a = 1", "drop a", "'go'",
        "address e", "say 1", "parse arg a", "parse value 1 with a", "parse var a b", "call g",
        "interpret ''", "interpret 'a = 1'", "do 2;end", "do i = 1 to 2 by 1;leave;end",
        "if 1;end", "if 0;end", "signal h;h:", "signal on novalue", "do while 0;end",
        "do 2;return 7;end", "do i = 1 to 2;return 7;end", "interpret 'return 7'"};
    for (String clause : clauses) {
      Rexworth x = ran("a = 4 5 f(6) 8;say a;exit;f:;" + clause + ";return 7;g:;return");
      due(clause + " in a function", said(x).endsWith("4 5 7 8/") + ended(x), "true");
    }
  }

  /** 'exit' and the last line end the program, 'return' outside of calls, too. */
  private static void endsOfPrograms() {
    says("exit;say 1", "");
    says("return;say 1", "");
    says("return 5;say 1", "");
    says("return 1/0", " 42 at 0");
    says("call f;say 1;exit;f:;exit", "");
    says("say f();f:;exit", "");
    says("say f();f:", "");
    says("call f;say 1;exit;f:;say 2", "2/");
    says("interpret 'exit';say 1", "");
    says("interpret 'return';say 1", "");
    says("if 1;exit;end;say 1", "");
    due("calls under way as it exits", ran("call f;f:;call g;g:;exit").depth(), 2);
    due("calls under way as it has returned", ran("call f;exit;f:;return").depth(), 0);
  }

  /** Digits, environment and conditions are those of the whole program. */
  private static void ofTheWholeProgram() {
    says("call f;say 1/3;exit;f:;procedure;digits 2;return", "0.33/");
    says("digits 2;call f;exit;f:;procedure;say 1/3;return", "0.33/");
    says("call f;say 1/0;exit;f:;procedure;signal on syntax;return;syntax:;say 1", "1/");
    says("signal on syntax;call f;say 1/0;exit;f:;signal off syntax;return;syntax:;say 1",
        " 42 at 2");
    Rexworth x = ran("call f;'a';exit;f:;procedure;address env;return");
    due("the environment of a call", command(x, 0), "env a");
  }

  /** At most 20 calls and interprets are under way together; 45 more than that. */
  private static void twentyUnderWay() {
    String call = ";say result;exit;f:;parse arg n;if n = 1;return 'deep';end;call f n - 1;return result";
    says("call f 20" + call, "deep/");
    says("call f 21" + call, " 45 at 8");
    String function = ";exit;f:;parse arg n;if n = 1;return 'deep';end;return f(n - 1)";
    says("say f(20)" + function, "deep/");
    says("say f(21)" + function, " 45 at 7");
    String both = ";exit;f:;parse arg n;if n = 0;say 'deep';return;end;interpret 'call f n - 1';return";
    says("a = 'call f 9';interpret a" + both, "deep/");
    says("a = 'call f 9';interpret 'interpret a'" + both, " 45 at 9");
    says("a = 'interpret a';interpret a", " 45 at 1");
    due("the most calls", ran("f:;call f").depth(), 20);
    says("do 30;call f;end;say 1;exit;f:;return", "1/");
    says("do 30;interpret 'a = 1';end;say 1", "1/");
    says("call f 20;exit;f:;parse arg n;if n > 1;call f n - 1;end;say length(n);return",
        times("1/", 20));
    says("signal on syntax;f:;call f;syntax:;say 1;signal on syntax;call g;exit;g:;return",
        "1/");
  }

  // ---- Templates

  private static void parses(String text, String template, String want) {
    says("parse value '" + text + "' with " + template + ";say a'-'b'-'c'-'", want + "/");
  }

  /** A template may have nothing. */
  private static void templatesWithNothing() {
    says("parse value 'a b' with;say a", "a/");
    says("parse arg;say 1", "1/");
    says("parse var a;say a", "a/");
    says("parse value 1/0 with", " 42 at 0");
    says("parse value 'a b' with .;say a", "a/");
    says("parse value 'a' with 'a' 2 +1 -1 ,;say 1", "1/");
  }

  /** A + or - and a number, and commas; 20 a template is none. */
  private static void templatesThatAreNone() {
    String[] templates = {"+", "-", "a +", "+ a", "- 'b'", "+ +1", "(1)", "a = 1", "=1", "a : b", "*",
        "a || b", "'a", "1 + - 1"};
    for (String template : templates) {
      says("parse arg " + template, " 20 at 0");
      says("parse var a " + template, " 20 at 0");
      says("parse value 1 with " + template, " 20 at 0");
    }
  }

  /** By arguments, a comma goes on to the next argument. */
  private static void templatesByArguments() {
    String ends = ";say a'-'b'-'c'-';return";
    says("call f 1, 2, 3;exit;f:;parse arg a, b, c" + ends, "1-2-3-/");
    says("call f 1, 2;exit;f:;parse arg a, b, c" + ends, "1-2--/");
    says("call f 1;exit;f:;parse arg , a b, c" + ends, "---/");
    says("call f;exit;f:;parse arg a b, c" + ends, "---/");
    says("call f 1, 2, 3;exit;f:;parse arg , , a" + ends, "3-b-c-/");
    says("call f 'xyz', 'uvw';exit;f:;parse arg 3 a, +1 b, c" + ends, "z-vw--/");
    says("call f 'xyz', 'xyz';exit;f:;parse arg a 'z', b 'x' c" + ends, "xy-xyz-yz-/");
    says("call f 1, 2;exit;f:;parse arg a, b;parse arg c" + ends, "1-2-1-/");
  }

  /** A text where it is found first behind the last part, or at the end. */
  private static void textsInTemplates() {
    parses("x/y/z", "a '/' b", "x-y/z-c-");
    parses("x/y/z", "a '/' b '/' c", "x-y-z-");
    parses("x/y", "a '/' b '/' c", "x-y--");
    parses("xy", "a '/' b", "xy--c-");
    parses("xy/", "a '/' b", "xy--c-");
    parses("", "a '/' b", "--c-");
    parses("x12y", "a '12' b", "x-y-c-");
    parses("x1", "a '12' b", "x1--c-");
    parses("x/y", "'/' a", "y-b-c-");
    parses("x/y", "a '/'", "x-b-c-");
    parses("xy/z/", "3 a '/' b", "/z/-z/-c-");
  }

  /** A number is the place, from 1, to which it is parted; it is kept within 1 and the end. */
  private static void placesInTemplates() {
    parses("xyz", "a 2 b", "x-yz-c-");
    parses("xyz", "a 3 b", "xy-z-c-");
    parses("xyz", "a 4 b", "xyz--c-");
    parses("xyz", "a 5 b", "xyz--c-");
    parses("xyz", "a 99999999999 b", "xyz--c-");
    parses("xyz", "a 1 b", "xyz-xyz-c-");
    parses("xyz", "a 0 b", "xyz-xyz-c-");
    parses("", "a 1 b 2 c", "---");
    parses("xyz", "2 a 3 b", "y-z-c-");
    parses("xyz", "a 2. b", "x-yz-c-");
    parses("xyz", "a 2.00 b", "x-yz-c-");
    parses("xyz", "a .0 b", "xyz-xyz-c-");
    says("parse value 'xyz' with a 1.5 b", " 26 at 0");
    says("parse value 'xyz' with a .5 b", " 26 at 0");
    says("parse value 'xyz' with a +0.1 b", " 26 at 0");
  }

  /** One with a sign as many further, or back, from where the last one began. */
  private static void placesWithASign() {
    parses("uvwxyz", "a +2 b +3 c", "uv-wxy-z-");
    parses("uvwxyz", "a +6 b", "uvwxyz--c-");
    parses("uvwxyz", "a +7 b", "uvwxyz--c-");
    parses("uvwxyz", "a +99 b -1 c", "uvwxyz--z-");
    parses("uvwxyz", "3 a -1 b", "wxyz-vwxyz-c-");
    parses("uvwxyz", "3 a -9 b", "wxyz-uvwxyz-c-");
    parses("uvwxyz", "a -1 b", "uvwxyz-uvwxyz-c-");
    parses("uvwxyz", "a +0 b", "uvwxyz-uvwxyz-c-");
    parses("uvwxyz", "'wx' a", "yz-b-c-");
    parses("uvwxyz", "'wx' +0 a", "wxyz-b-c-");
    parses("uvwxyz", "'wx' +1 a", "xyz-b-c-");
    parses("uvwxyz", "'wx' -1 a", "vwxyz-b-c-");
    parses("uvwxyz", "'q' -1 a", "z-b-c-");
    parses("uvwxyz", "'q' +1 a", "-b-c-");
    parses("uvwxyz", "a + 2 b", "uv-wxyz-c-");
    parses("uvwxyz", "2 'y' -3 a +1 b", "v-wxyz-c-");
  }

  /** Up to the next part, or, if that is not further on, to the end. */
  private static void partsNotFurtherOn() {
    parses("wxyz", "2 a 2 b", "xyz-xyz-c-");
    parses("wxyz", "3 a 2 b", "yz-xyz-c-");
    parses("wxyz", "2 a 3 b", "x-yz-c-");
    parses("wxyz", "a 'w' b", "wxyz-xyz-c-");
    parses("wxyz", "'w' a 'x' b", "xyz-yz-c-");
    parses("wxyz", "'w' a 'y' b", "x-z-c-");
    parses("wxyz", "2 a 'x' b", "xyz-yz-c-");
    parses("wxyz", "'wx' a 2 b", "yz-xyz-c-");
    parses("wxyz", "'wx' a 3 b", "yz-yz-c-");
    parses("wxyz", "'wx' a 4 b", "y-z-c-");
    parses("wxyz", "'w' a +1 b", "xyz-xyz-c-");
    parses("wxyz", "'w' a +2 b", "x-yz-c-");
    parses("wxyz", "5 a 'z' b", "--c-");
    parses("wxyz", "'z' a 'z' b", "--c-");
    parses("w x y z", "1 a b 'w' c", "w-x y z- x y z-");
  }

  /** Each but the last one gets a word, what is left behind that and one blank goes on. */
  private static void wordsInTemplates() {
    parses("x y z", "a b c", "x-y-z-");
    parses("x y z", "a b", "x-y z-c-");
    parses("x y", "a b c", "x-y--");
    parses("x", "a b c", "x---");
    parses("", "a b c", "---");
    parses(" ", "a b c", "---");
    parses("   ", "a b", "--c-");
    parses("   ", "a", "   -b-c-");
    parses("  x", "a", "  x-b-c-");
    parses("  x", "a b", "x--c-");
    parses("x ", "a b", "x--c-");
    parses("x  ", "a b", "x- -c-");
    parses("  x   y  ", "a b", "x-  y  -c-");
    parses("x y/z", "a b '/' c", "x-y-z-");
    parses("x/y z", "a '/' b c", "x-y-z-");
  }

  /** '.' stands for a name that is not kept. */
  private static void namesNotKept() {
    parses("x y z", ". a .", "y-b-c-");
    parses("x y z", ". . a", "z-b-c-");
    parses("x y z", "a .", "x-b-c-");
    parses("x y z", ". . . a", "-b-c-");
    parses("x/y", ". '/' a", "y-b-c-");
  }

  /** Behind a comma, var and value have an empty text. */
  private static void commasInOtherTemplates() {
    parses("x y", "a , b c", "x y---");
    parses("x y", ", a , b", "--c-");
    parses("x y", ", 2 a 'x' b", "--c-");
    says("a = 'x y';parse var a b , a;say a'-'b", "-x y/");
    says("parse var x. a , b;say a'-'b'-'", "x.--/");
  }

  /** parse var: what the name has, or the name. */
  private static void templatesByNames() {
    says("parse var a b;say b", "a/");
    says("parse var x.1 b;say b", "x.1/");
    says("a = 'x y';parse var a a b;say a b", "x y/");
    says("a = '';parse var a b c;say b'-'c'-'", "--/");
    says("i = 2;x.2 = 'y z';parse var x.i a b;say b a", "z y/");
  }

  // ---- Conditions

  /** novalue, as a name or element that was not set is asked for in an expression. */
  private static void novalues() {
    String[] asking = {
      "say a", "b = a", "say x.1", "say 1 || a", "if a;end", "do a;end", "do while a;end",
      "do i = a;end", "do i = 1 to a;end", "do i = 1 by a;end", "call f a", "return a",
      "parse value a with b", "digits a", "push a", "queue a", "interpret a", "a", "say length(a)",
      "interpret 'say a'", "a = 1;drop a;say a", "x. = 1;drop x.;say x.2", "x.1 = 1;drop x.1;say x.1"
    };
    for (String clause : asking) {
      says("signal on novalue;" + clause + ";exit;novalue:;say 'caught'", "caught/");
    }
    String[] others = {
      "a = 1;b = a", "a = '';b = a", "x. = 1;b = x.2", "x. = 1;drop x.2;b = x.2", "b = x.",
      "x.i = 1;b = x.i", "parse var a b", "pull a", "drop a", "parse arg a", "signal f;f:",
      "do a = 1 to 2;end", "do i = 1 to 2;drop i;leave;end", "address a", "b = 'a'"
    };
    for (String clause : others) {
      says("signal on novalue;" + clause + ";say 'well';exit;novalue:;say 'caught'", "well/");
    }
  }

  /** As it is on, such a one goes, off again then, to the label of that name. */
  private static void offAgain() {
    says("signal on syntax;say 1/0;exit;syntax:;say 1;say 1/0", "1/ 42 at 5");
    says("signal on novalue;say a;exit;novalue:;say 1 b", "1 b/");
    says("i = 0;syntax:;i = i + 1;say i;if i < 3;signal on syntax;say 1/0;end", "1/2/3/");
    says("signal on syntax;signal on syntax;say 1/0;syntax:;say 1/0", " 42 at 4");
    says("signal on syntax;signal off syntax;say 1/0;syntax:;say 1", " 42 at 2");
    says("signal on novalue;signal off novalue;say a;exit;novalue:;say 1", "a/");
    says("signal on syntax;say a;exit;syntax:;say 1", "a/");
    says("signal on novalue;say 1/0;exit;novalue:;say 1", " 42 at 1");
    says("signal on novalue;signal on syntax;say a;novalue:;say 1;say 1/0;syntax:;say 2", "1/2/");
    says("say 1/0;syntax:;say 1", " 42 at 0");
    says("signal on syntax;say 1/0;syntax:;say 1;exit;syntax:;say 2", "1/");
  }

  /** Calls being left that were begun since it was told on. */
  private static void callsThatAreLeft() {
    String text = "signal on syntax;call f;exit;f:;call g;exit;g:;say 1/0;syntax:;say 1";
    says(text, "1/");
    due("calls begun since are left", ran(text).depth(), 0);
    says("call f;say 'm';exit;f:;signal on syntax;call g;return;g:;say 1/0;syntax:;say 's';return",
        "s/m/");
    says("call f;say 'm';exit;f:;signal on syntax;say 1/0;syntax:;say 's';return", "s/m/");
    says("a = 1;signal on syntax;call f;f:;procedure;a = 2;say 1/0;syntax:;say a", "1/");
    says("call f;say 'm';exit;f:;signal on novalue;say g(1) + 1;g:;say a;novalue:;say 's';return",
        "s/m/");
    says("interpret 'signal on syntax';interpret 'say 1/0';syntax:;say 1", "1/");
  }

  /** In a call that has returned it counts as told on by its caller. */
  private static void toldOnInACallThatReturned() {
    String once = "call f;call g;exit;f:;signal on syntax;return;g:;say 1/0;syntax:;say 's'";
    says(once, "s/");
    due("the second call is left", ran(once).depth(), 0);
    says("call f;say 'm';exit;f:;call g;say 1/0;syntax:;say 's';return;g:;signal on syntax;return",
        "s/m/");
    String twice = "call f;call h;exit;f:;call g;return;g:;signal on syntax;return;h:;say 1/0;"
        + "syntax:;say 's'";
    says(twice, "s/");
    due("told on by the caller of the caller", ran(twice).depth(), 0);
    String other = "call f;call g;exit;f:;signal on novalue;return;g:;say a;novalue:;say 's'";
    says(other, "s/");
    due("the second call is left, too", ran(other).depth(), 0);
  }

  /** Without a label the run ends by error 16. */
  private static void conditionsWithoutALabel() {
    says("signal on syntax;say 1/0", " 16 at 1");
    says("signal on novalue;say a", " 16 at 1");
    says("signal on syntax;call f;f:;say 1/0", " 16 at 3");
    says("signal on syntax;interpret 'say 1/0';say 2", " 16 at 1");
    says("signal on syntax;say 1;say", "1/ 16 at 2");
  }

  /** 'signal name' goes to a label; blocks under way in that call are ended by it. */
  private static void signals() {
    says("signal f;say 1;f:;say 2", "2/");
    says("signal f;f:;say 1;exit;f:;say 2", "1/");
    says("i = 0;f:;i = i + 1;if i < 3;signal f;end;say i", "3/");
    says("do 3;signal f;end;f:;say 1;leave", "1/ 28 at 5");
    says("if 1;signal f;end;f:;say 1;end", "1/ 10 at 5");
    says("do 3;signal f;f:;say 1;end", "1/ 10 at 4");
    says("call f;say 'm';exit;f:;signal g;g:;say 's';return", "s/m/");
    says("do 2;call f;end;say 'm';exit;f:;do 5;signal g;end;g:;say 's';return", "s/s/m/");
    says("interpret 'signal f';say 1;f:;say 2", "2/");
    says("signal on syntax;do 2;say 1/0;end;syntax:;say 1;end", "1/ 10 at 6");
    says("signal f", " 16 at 0");
    says("signal length", " 16 at 0");
    says("f = 1;signal f", " 16 at 1");
  }

  // ---- Errors

  /** Errors end the run if they are not caught. */
  private static void errorsCaughtAndNot() {
    String[] clauses = {
      "say", "end", "signal nowhere", "digits 0", "leave", "if 2;end", "say word(1,0)", "say -a",
      "say 1/0", "say g()", "say f()", "say copies(1,201)", "procedure", "interpret 'end'",
      "say 1**100", "say '1e99'*10", "do 1", "else"
    };
    int[] errors = {20, 10, 16, 26, 28, 34, 40, 41, 42, 43, 44, 45, 17, 20, 26, 42, 10, 10};
    for (int i = 0; i < clauses.length; i++) {
      says(clauses[i] + ";exit;f:;return", " " + errors[i] + " at 0");
      says("signal on syntax;" + clauses[i] + ";exit;f:;return;syntax:;say 'caught'", "caught/");
    }
  }

  /** 41 no number; 42 a division by 0, an exponent of 3 digits or more. */
  private static void errorsOfNumbers() {
    for (String operator : new String[] {"+", "-", "*", "/", "%", "//", "**"}) {
      gives("a" + operator + "1", "error 41");
      gives("1" + operator + "a", "error 41");
    }
    for (String operator : new String[] {"/", "%", "//"}) {
      gives("1" + operator + "0", "error 42");
      gives("0" + operator + "0.00", "error 42");
    }
    gives("'9e99'+'1e99'", "error 42");
    gives("'-9e99'-'1e99'", "error 42");
    gives("'9e99'+'9e98'", "9.9e+99");
    gives("'1e99'*'1e1'", "error 42");
    gives("'1e99'*'1e0'", "1e+99");
    gives("'1e-99'*'1e-1'", "error 42");
    gives("'1e-99'/10", "error 42");
    gives("'1e-98'/10", "1e-99");
    gives("'1e99'/'1e-1'", "error 42");
    gives("-'10e99'", "error 42");
    gives("+'9e99'", "9e+99");
  }

  /** 45 a text would have more than 200 signs. */
  private static void textsTooLong() {
    gives("length(copies(1,100)||copies(2,100))", "200");
    gives("copies(1,100)||copies(2,101)", "error 45");
    gives("length(copies(1,100) copies(2,99))", "200");
    gives("copies(1,100) copies(2,100)", "error 45");
    gives("length(copies(1,200)'')", "200");
    gives("copies(1,200) ''", "error 45");
    gives("copies(1,200)'1'", "error 45");
    says("a = copies('a', 200);say length(a);b = a||1", "200/ 45 at 2");
    says("i = copies('a', 198);say length(x.i)", "200/");
    says("i = copies('a', 199);say length(x.i)", " 45 at 1");
    String[] clauses = {"x.i.1 = 1", "x.i.1 = x.i.1", "say x.i.1", "drop x.i.1", "pull x.i.1",
        "parse var x.i.1 a", "parse value 1 with x.i.1", "do x.i.1 = 1 to 2;end"};
    for (String clause : clauses) {
      says("i = copies('a', 199);" + clause, " 45 at 1");
    }
    says("do x.i = 1 to 2;i = copies('a', 199);end", " 45 at 0");
    says("do x.i = 1 to 2;i = copies('a', 201);end", " 45 at 1");
  }

  // ---- Others

  /** 'interpret' does its text as one clause, which may be no label, block and so on, for 20. */
  private static void interprets() {
    says("interpret 'say 1'", "1/");
    says("interpret '';say 1", "1/");
    says("interpret '   ';say 1", "1/");
    String[] others = {"f:", "if 1", "else", "do", "do 2", "do i = 1", "do while 0", "end",
        "procedure", "procedure expose a", "leave", "iterate", "say", "say (", "1,", "end 1", ":"};
    for (String text : others) {
      says("interpret '" + text + "'", " 20 at 0");
      says("do 1;if 1;interpret '" + text + "';end;end", " 20 at 2");
    }
    says("q = copies('+1', 97);a = 'x = 1'q;interpret a;say x length(a)", "98 199/");
    says("a = 'say' copies('1', 196);interpret a", times("1", 196) + "/");
    says("a = 'say 1';interpret 'interpret a'", "1/");
    says("interpret 'interpret end'", " 20 at 0");
    says("parse arg a;interpret a", " 20 at 1", "say 'a");
    says("parse arg a;interpret a", " 20 at 1", "'");
    says("parse arg a;interpret a", "a b/", "say 'a' 'b'");
    says("interpret 'if = 1';say if", "1/");
  }

  /** What 'interpret' does is a step, too, but of no line. */
  private static void interpretedSteps() {
    counts("interpret 'say 1'", "2: 1");
    counts("interpret ''", "1: 1");
    counts("a = 'b = 1';interpret 'interpret a'", "4: 1 1");
    counts(1, "interpret 'say 1'", "1: 1 over 0");
    counts(2, "interpret 'say 1';say 2", "2: 1 0 over 1");
    counts(3, "interpret 'say 1';say 2", "3: 1 1");
    counts("interpret 'call f';exit;f:;return", "4: 1 1 0 1");
    counts("interpret 'say 1/0'", "2: 1 42 at 0");
  }

  /** 'push' puts a line at the front of the queue, 'queue' at its end; 'pull' takes the first. */
  private static void queues() {
    due("push and queue", queue(ran("queue 1;queue 2;push 3;push 4")), "4/3/1/2/");
    due("pull", queue(ran("queue 1;queue 2;pull a")), "2/");
    due("pull the last", queue(ran("queue 1;pull a;pull a")), "");
    due("empty ones wait, too", queue(ran("queue '';push ''")), "//");
    due("a line of 200", queue(ran("queue copies('a', 200)")), times("a", 200) + "/");
    says("a = 1;pull a;say a'.'", "./");
    says("queue 1;pull a;pull b;say a'-'b'-'", "1--/");
    says("pull x.;say x.5'.'", "./");
    due("set to nothing", value(ran("pull a"), "a"), "=");
  }

  /** At most 20, further ones being lost. */
  private static void twentyInTheQueue() {
    String all = "20/19/18/17/16/15/14/13/12/11/10/9/8/7/6/5/4/3/2/1/";
    due("20 pushed", queue(ran("do i = 1 to 20;push i;end")), all);
    due("21 pushed", queue(ran("do i = 1 to 21;push i;end")), all);
    due("20 queued", ran("do i = 1 to 20;queue i;end").queued(), 20);
    due("21 queued", queue(ran("do i = 20 to 0 by -1;queue i;end")), all);
    due("one pushed to 20", queue(ran("do i = 20 to 1 by -1;queue i;end;push 'x'")), all);
    due("one queued to 20", queue(ran("do i = 1 to 20;push i;end;queue 'x'")), all);
    due("one queued as one was pulled",
        queue(ran("do i = 1 to 20;push i;end;pull a;queue 'x';queue 'y'")),
        all.substring(3) + "x/");
    due("one pushed as one was pulled",
        queue(ran("do i = 1 to 20;push i;end;pull a;push 'x';push 'y'")),
        "x/" + all.substring(3));
  }

  /** A command is kept, as the environment, a blank and its text; 'host' at first. */
  private static void commandsKept() {
    due("host at first", command(ran("'a b'"), 0), "host a b");
    due("another environment", command(ran("address e;'a'"), 0), "e a");
    due("the first one again", command(ran("address e;address host;'a'"), 0), "host a");
    due("an empty command", command(ran("''"), 0), "host ");
    due("an environment whose name is set", command(ran("e = 5;address e;'a'"), 0), "e a");
    due("a name of 52 signs", command(ran("address " + times("e", 52) + ";1"), 0),
        times("e", 52) + " 1");
    due("a command of 200 signs", command(ran("copies('a', 200)"), 0), "host " + times("a", 200));
    due("a command of 201 signs", ended(ran("copies('a', 201)")), " 45 at 0");
    due("which is not kept", ran("copies('a', 201)").commands(), 0);
    due("it is true with more than 200 signs", ran("copies('a', 200)").isTrue(), true);
  }

  /** At most 30, and sets rc to its number of words. */
  private static void thirtyCommands() {
    due("30 commands", ran("do i = 1 to 30;i;end").commands(), 30);
    Rexworth x = ran("do i = 1 to 31;i i + 0;end;'a b c'");
    due("32 commands", x.commands(), 30);
    due("the first of them", command(x, 0), "host 1 1");
    due("the last that is kept", command(x, 29), "host 30 30");
    due("rc of one that is not kept", value(x, "rc"), "=3");
    due("rc of an empty one", value(ran("rc = 5;''"), "rc"), "=0");
    due("rc of blanks", value(ran("'   '"), "rc"), "=0");
    due("rc of one word", value(ran("'  a  '"), "rc"), "=1");
    due("rc of 100 words", value(ran("copies('a ', 100)"), "rc"), "=100");
    due("rc without a command", value(ran("a = 1"), "rc"), "-rc");
  }

  /** Each clause but an empty line and a label is a step. */
  private static void whatIsAStep() {
    counts(";f:;say 1;  ;g :", "1: 0 0 1 0 0");
    counts("say", "1: 1 20 at 0");
    counts("exit", "1: 1");
    counts("signal f;f:", "1: 1 0");
    counts("call f;exit;f:;;return", "3: 1 1 0 0 1");
    counts("procedure", "1: 1 17 at 0");
    counts("say 1/0", "1: 1 42 at 0");
  }

  /** A 'do' also each time that it is done again. */
  private static void dosAreSteps() {
    counts("do 3;end", "6: 3 3");
    counts("do 3;iterate;end", "6: 3 3 0");
    counts("do i = 1 to 3;end", "6: 3 3");
    counts("do i = 1 while i < 3;end", "4: 2 2");
    counts("do;end", "2: 1 1");
    counts("do 2;do;end;end", "8: 2 2 2 2");
  }

  /** A run that would make more steps than it may is over. */
  private static void runsThatAreOver() {
    counts(1, "say 1", "1: 1");
    counts(1, "say 1;;f:", "1: 1 0 0");
    counts(1, "say 1;;say 2", "1: 1 0 0 over 2");
    counts(1, "exit;say 1", "1: 1 0");
    counts(1, "say 1/0;say 1", "1: 1 0 42 at 0");
    counts(1, "f:;signal f", "1: 0 1 over 1");
    counts(2000, "do 1000;end", "2000: 1000 1000");
    counts(2000, "do 1001;end", "2000: 1000 1000 over 0");
    counts(2000, "f:;signal f", "2000: 0 2000 over 1");
    counts(1999, "do 1000;end", "1999: 1000 999 over 1");
    counts(2, "call f;f:;say 1;return", "2: 1 0 1 0 over 3");
    due("calls under way as it is over", ran(1, "call f;f:;say 1").depth(), 1);
  }

  /** Programs that fill all that there is. */
  private static void muchOfAll() {
    says("do i = 1 to 900;x.i = i * i;end;say x.1 x.450 x.900", " over 2");
    says("do i = 1 to 600;x.i = i * i;end;say x.1 x.450 x.600 x.601", "1 202500 360000 x.601/");
    says("do i = 1 to 300;x.i = i;end;s = 0;do i = 1 to 300;s = s + x.i;end;say s", "45150/");
    says("do i = 1 to 300;a = copies(i, 66);x.i = a;end;say length(x.9) length(x.300) x.9",
        "66 198 " + times("9", 66) + "/");
    String line = "a = a '" + times("c", 51) + "'";
    Rexworth x = new Rexworth();
    type(x, "a = ''");
    x.line();
    for (int i = 0; i < 3; i++) {
      type(x, line);
      x.line();
    }
    x.run(2000);
    due("three long lines", value(x, "a"), "=" + times(" " + times("c", 51), 3));
    StringBuilder names = new StringBuilder();
    for (int i = 0; i < 6; i++) {
      names.append("n").append(i).append("=-").append(times("+-", 25)).append("1;");
    }
    says(names + "say n0 n5", "1 1/");
    says("b = copies('y ', 100);interpret 'parse var b' copies('x ', 60);say length(x)", "82/");
    says("q = copies('(', 90);r = copies(')', 90);interpret 'a ='q||1||r;say a", "1/");
    says("q = copies('-', 190);interpret 'a ='q||1;say a", "1/");
    says("q = copies('f(', 20);r = copies(')', 20);interpret 'a ='q||1||r;say a;exit;f:;return 5",
        "5/");
    says("q = copies('1,', 90);interpret 'call f' q||2;exit;f:;parse arg a, b;say a b;return",
        "1 1/");
    says("do 9;do 9;do 9;do 9;do 9;do 9;do 9;do 9;do 9;do 9;do 9;do 9;do 9;do 9;do 9;do 9;do 9"
        + ";say 1;exit" + times(";end", 17), "1/");
  }

  // ---- all of them

  private static void termsOfText() {
    fortyLines();
    sixtySigns();
    signsOfLines();
    words();
    numbersInLines();
    textsInLines();
    signsReadAsOne();
    blanks();
    nothingAndLabels();
    assignments();
    clausesTooShort();
    clausesTooLong();
    wordsThatAreNearlyThese();
    signalsTold();
    argumentsOfCalls();
    elementsAndStemsAsNames();
    wordsThatEndExpressions();
    strengthsOfTwo();
    strengthsOfPrefixes();
    strengths();
    textsPutTogether();
    fromLeftToRight();
    operands();
    allOperands();
  }

  private static void termsOfNumbers() {
    whatIsANumber();
    exponentsThatAreRead();
    digitsThatAreSet();
    zerosAheadAreNoDigits();
    halves();
    ninesRoundedOver();
    decimalsThatAreKept();
    decimalsThatAreLost();
    wholeParts();
    whatIsLeft();
    wholePartsTooLong();
    powers();
    digitsAheadOfTheDot();
    decimalsBehindTheDot();
    writtenWithAnExponent();
    zero();
    numbersCompared();
    textsCompared();
    sameTexts();
    truths();
  }

  private static void termsOfRuns() {
    namesNotSet();
    tails();
    stems();
    drops();
    ifs();
    endsLookedFor();
    noClausesAreNoBlocks();
    elses();
    dosWithANumber();
    dosWithAName();
    limitsOfDos();
    dosAreWorkedOutOnce();
    namesGoUp();
    whiles();
    leaves();
    iterates();
  }

  private static void termsOfCalls() {
    firstLabels();
    functionsBuiltIn();
    numbersOfArguments();
    lengthAndWords();
    wordsByNumber();
    pieces();
    manyCopies();
    placesInTexts();
    numbersByFunctions();
    argumentsAreOfTheCall();
    procedures();
    exposedNames();
    results();
    functionsWithoutAValue();
    clausesInFunctions();
    endsOfPrograms();
    ofTheWholeProgram();
    twentyUnderWay();
  }

  private static void termsOfTemplates() {
    templatesWithNothing();
    templatesThatAreNone();
    templatesByArguments();
    textsInTemplates();
    placesInTemplates();
    placesWithASign();
    partsNotFurtherOn();
    wordsInTemplates();
    namesNotKept();
    commasInOtherTemplates();
    templatesByNames();
  }

  private static void termsOfConditionsAndOthers() {
    novalues();
    offAgain();
    callsThatAreLeft();
    toldOnInACallThatReturned();
    conditionsWithoutALabel();
    signals();
    errorsCaughtAndNot();
    errorsOfNumbers();
    textsTooLong();
    interprets();
    interpretedSteps();
    queues();
    twentyInTheQueue();
    commandsKept();
    thirtyCommands();
    whatIsAStep();
    dosAreSteps();
    runsThatAreOver();
    muchOfAll();
  }

  public static void main(String[] args) {
    termsOfText();
    termsOfNumbers();
    termsOfRuns();
    termsOfCalls();
    termsOfTemplates();
    termsOfConditionsAndOthers();
    finish();
  }
}
