import java.math.BigInteger;
import java.util.NoSuchElementException;

/**
 * The promises by their numbers: ordinary calls, the edges of what they are given, and calls that
 * are refused, which throw what is listed first and change nothing.
 */
public final class PromisesTest extends Asking {
  private static final int[] FAR = {
    -1, -2, Integer.MIN_VALUE, Integer.MIN_VALUE + 1, Integer.MAX_VALUE, Integer.MAX_VALUE - 1
  };

  private static final Class<?> STATE = IllegalStateException.class;
  private static final Class<?> ARGUMENT = IllegalArgumentException.class;
  private static final Class<?> UNSUPPORTED = UnsupportedOperationException.class;
  private static final Class<?> NO_ELEMENT = NoSuchElementException.class;
  private static final Class<?> INDEX = IndexOutOfBoundsException.class;

  /** The call throws just this exception, and nothing of the object changes by it. */
  private static void refused(String what, Rexworth x, Class<?> want, Call call) {
    String before = state(x);
    thrown(what, want, call);
    due(what + " leaves the state", state(x), before);
  }

  /** All that can be asked without changing anything. */
  private static String state(Rexworth x) {
    StringBuilder b = new StringBuilder();
    boolean isLine = true;
    for (int i = 0; i < 41 && isLine; i++) {
      int line = i;
      String sign = asked(() -> x.at(line, 0));
      isLine = !sign.equals("IndexOutOfBoundsException");
      for (int k = 1; sign.length() == 1; k++) {
        int place = k;
        b.append(sign);
        sign = asked(() -> x.at(line, place));
      }
      b.append(';').append(asked(() -> x.done(line)));
    }
    b.append(asked(x::end)).append(asked(x::error)).append(asked(x::where)).append(asked(x::steps));
    b.append(asked(() -> said(x))).append(asked(x::isSet)).append(asked(x::valueLength));
    b.append(asked(() -> queue(x))).append(asked(x::commands)).append(asked(x::digits));
    b.append(asked(x::depth)).append(asked(x::checksum)).append(asked(x::doneShare));
    b.append(asked(x::meanSaid)).append(asked(() -> x.reckon(9))).append(asked(x::isTrue));
    return b.toString();
  }

  /** 1: a machine without lines and arguments; what asks of a run throws, as nothing was run. */
  private static void promise1() {
    Rexworth x = new Rexworth();
    due("nothing is typed", x.wipe(), 0);
    due("no lines", x.clear(), 0);
    due("no arguments", x.bare(), 0);
    due("the sum at first", x.checksum(), 7L);
    due("true at first", x.isTrue(), true);
    Call[] calls = {
      x::end, x::error, x::where, x::steps, () -> x.done(0), x::said, () -> x.saidLength(0),
      () -> x.saidSign(0, 0), x::isSet, x::valueLength, () -> x.valueSign(0), x::queued,
      () -> x.queuedSign(0, 0), x::commands, () -> x.commandSign(0, 0), x::digits, x::depth,
      x::doneShare, x::meanSaid
    };
    for (int i = 0; i < calls.length; i++) {
      refused("nothing was run, call " + i, x, STATE, calls[i]);
    }
    type(x, "a = 1");
    x.line();
    refused("a run that is refused", x, ARGUMENT, () -> x.run(0));
    for (int i = 0; i < calls.length; i++) {
      refused("still nothing was run, call " + i, x, STATE, calls[i]);
    }
    due("the sum still", x.checksum(), 7L);
    x.run(1);
    due("it was run", x.end(), 'd');
    Rexworth other = new Rexworth();
    due("another object is another machine", other.clear() + asked(other::end),
        "0IllegalStateException");
  }

  /** 2: no such sign, ahead of 60 signs. 3: how many there were. */
  private static void promises2And3() {
    Rexworth x = new Rexworth();
    refused("no sign", x, ARGUMENT, () -> x.type('A'));
    due("none is typed", x.wipe(), 0);
    due("the first sign", x.type('a'), 1);
    due("one is wiped", x.wipe(), 1);
    due("the first one again", x.type('b'), 1);
    x.wipe();
    type(x, "c".repeat(59));
    due("the last sign", x.type('d'), 60);
    refused("one too many", x, STATE, () -> x.type('e'));
    refused("one too many, and no sign", x, ARGUMENT, () -> x.type('E'));
    due("all are wiped", x.wipe(), 60);
    due("none is left", x.wipe(), 0);
    due("and there is room", x.type('f'), 1);
  }

  /** 4: a line with what is typed, 40 at most. 5: how many there were. 6: a sign of a line. */
  private static void promises4To6() {
    Rexworth x = new Rexworth();
    due("a line of nothing", x.line(), 0);
    refused("it has no sign", x, NO_ELEMENT, () -> x.at(0, 0));
    type(x, "ab");
    due("a second line", x.line(), 1);
    due("which is wiped then", x.wipe(), 0);
    due("its first sign", x.at(1, 0), 'a');
    due("its last sign", x.at(1, 1), 'b');
    refused("behind it", x, NO_ELEMENT, () -> x.at(1, 2));
    refused("no line 2", x, INDEX, () -> x.at(2, 0));
    for (int far : FAR) {
      refused("line " + far, x, INDEX, () -> x.at(far, 0));
      refused("place " + far, x, NO_ELEMENT, () -> x.at(1, far));
      refused("line and place " + far, x, INDEX, () -> x.at(far, far));
    }
    for (int i = 2; i < 40; i++) {
      x.line();
    }
    type(x, "abc");
    refused("a line too many", x, STATE, x::line);
    due("what is typed stays", x.wipe(), 3);
    due("40 lines are there", x.clear(), 40);
    due("none is left", x.clear(), 0);
    refused("line 0 is gone", x, INDEX, () -> x.at(0, 0));
    type(x, "z");
    due("what is typed stays as lines go", x.clear(), 0);
    due("the first one again", x.line(), 0);
    due("its sign", x.at(0, 0), 'z');
  }

  /** 7: a further argument of runs, 4 at most. 8: how many there were. */
  private static void promises7And8() {
    Rexworth x = program("parse arg a, b, c, d, e;say a'-'b'-'c'-'d'-'e'-'");
    x.run(9);
    due("no arguments", said(x), "-----/");
    due("an empty one", x.argument(), 1);
    for (int i = 2; i <= 4; i++) {
      type(x, "n " + i);
      due("argument " + i, x.argument(), i);
      due("which is wiped then", x.wipe(), 0);
    }
    type(x, "abc");
    refused("one too many", x, STATE, x::argument);
    due("what is typed stays", x.wipe(), 3);
    x.run(9);
    due("four arguments", said(x), "-n 2-n 3-n 4--/");
    due("there were four", x.bare(), 4);
    due("none is left", x.bare(), 0);
    x.run(9);
    due("none in a run", said(x), "-----/");
    type(x, "g".repeat(60));
    due("one of 60 signs", x.argument(), 1);
    x.run(9);
    due("it has 60", said(x), "g".repeat(60) + "-----/");
  }

  /** 9: with nothing set, said, queued or commanded; 1 to 2000 steps; lines are needed. */
  private static void promise9() {
    Rexworth x = new Rexworth();
    refused("no lines", x, UNSUPPORTED, () -> x.run(1));
    refused("no lines and no steps", x, ARGUMENT, () -> x.run(0));
    refused("no lines and too many steps", x, ARGUMENT, () -> x.run(2001));
    type(x, "say a");
    x.line();
    refused("0 steps", x, ARGUMENT, () -> x.run(0));
    refused("2001 steps", x, ARGUMENT, () -> x.run(2001));
    for (int far : FAR) {
      refused(far + " steps", x, ARGUMENT, () -> x.run(far));
    }
    due("1 step", x.run(1), 'd');
    due("2000 steps", x.run(2000), 'd');
    refused("what is refused", x, ARGUMENT, () -> x.run(2001));
    due("leaves the last run", said(x), "a/");
    Rexworth again = program("say a b.1 rc result;call f;exit;f:;a = 1;b. = 2;queue 3;'c';digits 4;"
        + "address e;signal on syntax;return 5;syntax:;say 'caught'");
    for (int i = 0; i < 3; i++) {
      due("run " + i, again.run(2000), 'd');
      due("nothing is set", said(again), "a b.1 rc result/");
      due("nothing is queued or commanded", again.queued() + " " + again.commands(), "1 1");
      due("in host", command(again, 0), "host c");
      due("its digits", again.digits(), 4);
    }
    type(again, "say 1/0");
    again.line();
    again.run(1);
    due("9 digits at first", again.digits(), 9);
    due("nothing queued at first", again.queued(), 0);
    due("nothing commanded at first", again.commands(), 0);
    due("no condition is on at first", ran("say 1/0;syntax:").error(), 42);
    again.clear();
    refused("no lines any more", again, UNSUPPORTED, () -> again.run(1));
    due("the last run stays", again.end() + said(again), "la b.1 rc result/");
    due("and is true", again.isTrue(), true);
    due("an empty line is a line", program("").run(1), 'd');
  }

  /** 10 to 12: how the last run ended, the number of the error, and the line. */
  private static void promises10To12() {
    Rexworth well = ran("say 1");
    due("d", well.end(), 'd');
    refused("no error", well, NO_ELEMENT, well::error);
    refused("it has ended", well, NO_ELEMENT, well::where);
    Rexworth failed = ran(";;say 1/0");
    due("x", failed.end(), 'x');
    due("the error", failed.error(), 42);
    due("its line", failed.where(), 2);
    Rexworth over = ran(1, "say 1;;say 2");
    due("l", over.end(), 'l');
    refused("no error as it is over", over, NO_ELEMENT, over::error);
    due("the line in which it was over", over.where(), 2);
    Rexworth caught = ran("signal on syntax;say 1/0;syntax:");
    due("d as it was caught", caught.end(), 'd');
    refused("no error as it was caught", caught, NO_ELEMENT, caught::error);
    refused("it has ended as it was caught", caught, NO_ELEMENT, caught::where);
    due("an error of a called line", ran("call f;exit;f:;say 1/0").where(), 3);
    due("an error in a line 39", ran(";".repeat(39) + "say 1/0").where(), 39);
  }

  /** 13: how many steps were made. 14: how often a line was done. */
  private static void promises13And14() {
    Rexworth x = ran(";say 1;f:");
    due("one step", x.steps(), 1);
    due("an empty line", x.done(0), 0);
    due("a clause", x.done(1), 1);
    due("a label", x.done(2), 0);
    refused("no line 3", x, INDEX, () -> x.done(3));
    for (int far : FAR) {
      refused("line " + far, x, INDEX, () -> x.done(far));
    }
    x.line();
    refused("of the lines as they were run", x, INDEX, () -> x.done(3));
    x.clear();
    due("still of those", x.done(1), 1);
    due("the most steps", ran("f:;signal f").steps(), 2000);
    due("no steps", ran("").steps(), 0);
  }

  /** 15 to 17: lines that were said, their length and their signs. */
  private static void promises15To17() {
    Rexworth x = ran("say '';say 'ab';say copies('c', 200)");
    due("lines said", x.said(), 3);
    due("an empty one", x.saidLength(0), 0);
    due("one of two", x.saidLength(1), 2);
    due("one of 200", x.saidLength(2), 200);
    refused("no line 3", x, NO_ELEMENT, () -> x.saidLength(3));
    refused("no sign in the empty one", x, NO_ELEMENT, () -> x.saidSign(0, 0));
    due("the first sign", x.saidSign(1, 0), 'a');
    due("the last sign", x.saidSign(1, 1), 'b');
    refused("behind it", x, NO_ELEMENT, () -> x.saidSign(1, 2));
    due("the 200th", x.saidSign(2, 199), 'c');
    refused("a 201st", x, NO_ELEMENT, () -> x.saidSign(2, 200));
    refused("none in line 3", x, NO_ELEMENT, () -> x.saidSign(3, 0));
    for (int far : FAR) {
      refused("length of " + far, x, NO_ELEMENT, () -> x.saidLength(far));
      refused("line " + far, x, NO_ELEMENT, () -> x.saidSign(far, 0));
      refused("place " + far, x, NO_ELEMENT, () -> x.saidSign(1, far));
    }
    due("nothing was said", ran("a = 1").said(), 0);
    due("a thousand lines", ran("do 667;say 1;end").said(), 667);
  }

  /** 18 to 20: a variable that is typed, as the run ended; it is no word. */
  private static void promises18To20() {
    Rexworth x = ran("a = 'xyz';b = '';c. = 5;d.1 = 6;e = 1;drop e");
    String[][] values = {
      {"a", "=xyz"}, {"b", "="}, {"c.", "=5"}, {"c.9", "=5"}, {"c.a.b", "=5"}, {"d.1", "=6"},
      {"d.2", "-d.2"}, {"d.", "-d."}, {"e", "-e"}, {"d.a", "-d.xyz"}, {"d.b", "-d."}, {" a ", "=xyz"},
      {"w".repeat(60), "-" + "w".repeat(60)}, {"a.", "-a."}, {"say", "-say"}, {"a ", "=xyz"},
      {"  d.1 ", "=6"}, {" c.9 ", "=5"}, {" d.b ", "-d."}, {" b ", "="},
      {" ".repeat(59) + "a", "=xyz"}, {"a" + " ".repeat(59), "=xyz"}
    };
    for (String[] pair : values) {
      due("the value of " + pair[0], value(x, pair[0]), pair[1]);
    }
    x.wipe();
    type(x, "a");
    due("the first sign", x.valueSign(0), 'x');
    due("the last sign", x.valueSign(2), 'z');
    refused("behind it", x, NO_ELEMENT, () -> x.valueSign(3));
    for (int far : FAR) {
      refused("place " + far, x, NO_ELEMENT, () -> x.valueSign(far));
    }
    due("what is typed stays", x.wipe(), 1);
    type(x, "b");
    refused("no sign of an empty one", x, NO_ELEMENT, () -> x.valueSign(0));
    String[] noWords = {
      "", " ", "   ", "1", " 5 ", "1a", ".", ".a", " .a", "a b", " a b", "a b ", "x. a", "x .a",
      "'a'", " 'a'", "' a'", "a=", "a+", "a +", "a:", "a :", "(a)", "a(", "a ()", "-a"
    };
    for (String text : noWords) {
      x.wipe();
      type(x, text);
      refused("isSet of " + text, x, UNSUPPORTED, x::isSet);
      refused("valueLength of " + text, x, UNSUPPORTED, x::valueLength);
      refused("valueSign of " + text, x, UNSUPPORTED, () -> x.valueSign(-1));
    }
    Rexworth none = program("say 1");
    refused("isSet of nothing, nothing run", none, STATE, none::isSet);
    refused("valueLength of nothing, nothing run", none, STATE, none::valueLength);
    refused("valueSign of nothing, nothing run", none, STATE, () -> none.valueSign(-1));
  }

  /** 18 to 20: in the variables of the last clause. */
  private static void variablesOfTheLastClause() {
    String inner = "a = 1;call f;exit;f:;procedure;a = 2;b = 3;";
    due("as it exits", value(ran(inner + "exit"), "a"), "=2");
    due("as it fails", value(ran(inner + "say 1/0"), "b"), "=3");
    due("as it has returned", value(ran(inner + "return"), "a"), "=1");
    due("what is gone then", value(ran(inner + "return"), "b"), "-b");
    due("as it is over", value(ran(5, inner + "say 1"), "a"), "=2");
    due("at the last line", value(ran(inner + "say 1"), "a"), "=2");
    due("exposed", value(ran("a = 1;call f;f:;procedure expose a;a = 2"), "a"), "=2");
    due("not exposed", value(ran("a = 1;call f;f:;procedure expose b"), "a"), "-a");
    due("of a tail", value(ran("i = 1;x.1 = 5;call f;f:;procedure expose x."), "x.i"), "-x.i");
  }

  /** 21 and 22: lines that wait. 23 and 24: commands. */
  private static void promises21To24() {
    Rexworth x = ran("queue 'ab';queue '';'cd';address e;''");
    due("lines that wait", x.queued(), 2);
    due("the first sign", x.queuedSign(0, 0), 'a');
    due("the last sign", x.queuedSign(0, 1), 'b');
    refused("behind it", x, NO_ELEMENT, () -> x.queuedSign(0, 2));
    refused("none in an empty one", x, NO_ELEMENT, () -> x.queuedSign(1, 0));
    refused("no line 2", x, NO_ELEMENT, () -> x.queuedSign(2, 0));
    due("commands", x.commands(), 2);
    due("the first sign of a command", x.commandSign(0, 0), 'h');
    due("the last one", x.commandSign(0, 6), 'd');
    refused("behind that", x, NO_ELEMENT, () -> x.commandSign(0, 7));
    due("the blank of an empty one", x.commandSign(1, 1), ' ');
    refused("behind the blank", x, NO_ELEMENT, () -> x.commandSign(1, 2));
    refused("no command 2", x, NO_ELEMENT, () -> x.commandSign(2, 0));
    for (int far : FAR) {
      refused("queued line " + far, x, NO_ELEMENT, () -> x.queuedSign(far, 0));
      refused("queued place " + far, x, NO_ELEMENT, () -> x.queuedSign(0, far));
      refused("command " + far, x, NO_ELEMENT, () -> x.commandSign(far, 0));
      refused("command place " + far, x, NO_ELEMENT, () -> x.commandSign(0, far));
    }
    Rexworth none = ran("a = 1");
    due("none waits", none.queued(), 0);
    due("no commands", none.commands(), 0);
    refused("no line 0", none, NO_ELEMENT, () -> none.queuedSign(0, 0));
    refused("no command 0", none, NO_ELEMENT, () -> none.commandSign(0, 0));
    due("the 205th sign", ran("copies('a', 200)").commandSign(0, 204), 'a');
    thrown("a 206th", NO_ELEMENT, () -> ran("copies('a', 200)").commandSign(0, 205));
  }

  /** 25: how many digits were set. 26: how many calls were under way. */
  private static void promises25And26() {
    due("digits at first", ran("say 1").digits(), 9);
    due("1 digit", ran("digits 1").digits(), 1);
    due("20 digits", ran("digits 20").digits(), 20);
    due("as 21 are refused", ran("digits 3;digits 21").digits(), 3);
    due("as 0 are refused", ran("digits 3;digits 0").digits(), 3);
    due("no call", ran("say 1").depth(), 0);
    due("one call", ran("call f;f:").depth(), 1);
    due("a function", ran("say f();f:;exit").depth(), 1);
    due("20 calls", ran("f:;call f").depth(), 20);
    due("one that has returned", ran("call f;exit;f:;return").depth(), 0);
    due("an interpret is no call", ran("interpret 'exit'").depth(), 0);
    due("a call of an interpret", ran("interpret 'call f';f:;exit").depth(), 1);
  }

  /** 27 and 28: an expression that is typed, with 1 to 20 digits. */
  private static void promises27And28() {
    Rexworth x = new Rexworth();
    due("nothing is none", x.reckon(9), -20);
    refused("nothing has no sign", x, NO_ELEMENT, () -> x.reckoned(9, 0));
    type(x, "1/3");
    due("1 digit", x.reckon(1), 3);
    due("20 digits", x.reckon(20), 22);
    due("the first sign", x.reckoned(20, 0), '0');
    due("the last sign", x.reckoned(20, 21), '3');
    refused("behind it", x, NO_ELEMENT, () -> x.reckoned(20, 22));
    refused("0 digits", x, ARGUMENT, () -> x.reckon(0));
    refused("21 digits", x, ARGUMENT, () -> x.reckon(21));
    refused("0 digits, a sign", x, ARGUMENT, () -> x.reckoned(0, 0));
    refused("21 digits, a sign", x, ARGUMENT, () -> x.reckoned(21, 0));
    for (int far : FAR) {
      refused(far + " digits", x, ARGUMENT, () -> x.reckon(far));
      refused(far + " digits, a sign", x, ARGUMENT, () -> x.reckoned(far, 0));
      refused("place " + far, x, NO_ELEMENT, () -> x.reckoned(9, far));
      refused("digits and place " + far, x, ARGUMENT, () -> x.reckoned(far, far));
    }
    due("what is typed stays", x.wipe(), 3);
    type(x, "''");
    due("no signs", x.reckon(9), 0);
    refused("no sign", x, NO_ELEMENT, () -> x.reckoned(9, 0));
    x.wipe();
    type(x, "copies(1,200)");
    due("200 signs", x.reckon(9), 200);
    due("the 200th", x.reckoned(9, 199), '1');
    refused("a 201st", x, NO_ELEMENT, () -> x.reckoned(9, 200));
    x.wipe();
    type(x, "copies(1,201)");
    due("201 signs", x.reckon(9), -45);
    refused("of 201 signs", x, NO_ELEMENT, () -> x.reckoned(9, 0));
    refused("nothing was run by it", x, STATE, x::end);
    Rexworth after = ran("a = 5;digits 3;exit;f:;return 1");
    type(after, "a 1/3");
    due("nothing is set, with other digits", after.reckon(5), 9);
    after.wipe();
    type(after, "f()");
    due("no lines are there", after.reckon(9), -43);
    due("the digits of the run stay", after.digits(), 3);
    due("its variables, too", value(after, "a"), "=5");
  }

  /** The sum over a run as it would be without an end. */
  private static BigInteger sumOf(Rexworth x) {
    BigInteger sum = BigInteger.valueOf(7);
    BigInteger many = BigInteger.valueOf(31);
    for (int i = 0; i < x.said(); i++) {
      for (int k = 0; k < x.saidLength(i); k++) {
        sum = sum.multiply(many).add(BigInteger.valueOf(x.saidSign(i, k)));
      }
      sum = sum.multiply(many).add(BigInteger.valueOf(x.saidLength(i)));
    }
    return sum.multiply(many).add(BigInteger.valueOf(x.steps()));
  }

  /** 29: a sum over the last run, which wraps around. */
  private static void promise29() {
    due("nothing said, no steps", ran("").checksum(), 7L * 31);
    due("nothing said", ran("a = 1").checksum(), 7L * 31 + 1);
    due("nothing but an empty line", ran("say ''").checksum(), 7L * 31 * 31 + 1);
    due("a sign", ran("say 'a'").checksum(), ((7L * 31 + 'a') * 31 + 1) * 31 + 1);
    Rexworth least = ran("say copies('z', 9)");
    due("a sum that is no wrap-around", sumOf(least).bitLength() < 64, true);
    due("nine signs", least.checksum(), sumOf(least).longValue());
    String[] programs = {
      "say copies('z', 11)", "say copies('z', 12)", "say copies('z', 13)", "say copies('z', 200)",
      "do i = 1 to 300;say i;end", "say 100/3;say '';say 1/0", "do i = 1;say copies(i, 9);end"
    };
    for (String text : programs) {
      Rexworth x = ran(text);
      due("beyond a long: " + text, sumOf(x).bitLength() > 63, true);
      due("the sum of " + text, x.checksum(), sumOf(x).longValue());
    }
  }

  /** 30: the share of lines that were done. 31: the mean number of signs of lines said. */
  private static void promises30And31() {
    due("none of one", ran("").doneShare(), 0f);
    due("one of one", ran("say 1").doneShare(), 1f);
    due("one of three", ran("exit;;say 1").doneShare(), 1f / 3f);
    due("one of 40", ran("exit" + ";".repeat(39)).doneShare(), 1f / 40f);
    due("one that was done often", ran("f:;signal f").doneShare(), 0.5f);
    due("as it failed", ran("say;say 1").doneShare(), 0.5f);
    Rexworth silent = ran("a = 1");
    refused("nothing was said", silent, ArithmeticException.class, silent::meanSaid);
    due("an empty line was said", ran("say ''").meanSaid(), 0.0);
    due("200 signs", ran("say copies('a', 200)").meanSaid(), 200.0);
    due("a third", ran("say '';say '';say 1").meanSaid(), 1.0 / 3.0);
    due("two thirds", ran("say '';say 1;say 1").meanSaid(), 2.0 / 3.0);
    Rexworth x = ran("say 'abc';exit;say 1");
    x.clear();
    x.line();
    due("of lines as they were run", x.doneShare(), 2f / 3f);
    due("of what was said then", x.meanSaid(), 3.0);
  }

  /** 32: the last run is made again with its lines, arguments and steps. */
  private static void promise32() {
    due("nothing was run", program("say 1").isTrue(), true);
    due("a run that is over", ran(7, "do i = 1;say i;end").isTrue(), true);
    due("a run that failed", ran("say 1/0").isTrue(), true);
    due("steps of what was interpreted", ran("do 9;interpret 'say 1';end").isTrue(), true);
    due("a text of 200 signs", ran("say copies('a', 200)").isTrue(), true);
    Rexworth x = program("parse arg a;say a;do i = 1;say i;end");
    type(x, "one");
    x.argument();
    x.run(9);
    x.clear();
    x.bare();
    type(x, "say 2");
    x.line();
    type(x, "two");
    x.argument();
    due("with the lines and arguments of the run", x.isTrue(), true);
    due("which stays as it was", said(x) + ended(x), "one/1/2/ over 3");
    refused("a run that is refused", x, ARGUMENT, () -> x.run(0));
    due("with the steps of the run", x.isTrue(), true);
    type(x, "1/0");
    x.reckon(1);
    due("as an expression was reckoned", x.isTrue(), true);
    due("again", x.isTrue(), true);
  }

  public static void main(String[] args) {
    promise1();
    promises2And3();
    promises4To6();
    promises7And8();
    promise9();
    promises10To12();
    promises13And14();
    promises15To17();
    promises18To20();
    variablesOfTheLastClause();
    promises21To24();
    promises25And26();
    promises27And28();
    promise29();
    promises30And31();
    promise32();
    finish();
  }
}
