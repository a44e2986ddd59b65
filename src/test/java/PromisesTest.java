import java.util.NoSuchElementException;

/** At least one check for each promise: ordinary inputs, edges and wrong inputs. */
public final class PromisesTest {
  private static int wrong = 0;

  private static void due(String what, Object got, Object want) {
    if (!got.equals(want)) {
      wrong++;
      System.out.println(what + " answered " + got + ", due is " + want);
    }
  }

  private interface Call {
    Object make();
  }

  /** The call throws just this exception, and nothing of the object changes by it. */
  private static void thrown(String what, Rexworth x, Class<?> want, Call call) {
    String before = state(x);
    String got = "nothing";
    try {
      call.make();
    } catch (RuntimeException e) {
      got = e.getClass().getSimpleName();
    }
    due(what + " throws", got, want.getSimpleName());
    due(what + " leaves the state", state(x), before);
  }

  private static final Class<?> STATE = IllegalStateException.class;
  private static final Class<?> ARGUMENT = IllegalArgumentException.class;
  private static final Class<?> UNSUPPORTED = UnsupportedOperationException.class;
  private static final Class<?> NO_ELEMENT = NoSuchElementException.class;
  private static final Class<?> INDEX = IndexOutOfBoundsException.class;

  private static void type(Rexworth x, String text) {
    for (char sign : text.toCharArray()) {
      x.type(sign);
    }
  }

  private static Rexworth program(String... lines) {
    Rexworth x = new Rexworth();
    for (String line : lines) {
      type(x, line);
      x.line();
    }
    return x;
  }

  private static Rexworth ran(String... lines) {
    Rexworth x = program(lines);
    x.run(2000);
    return x;
  }

  private static String said(Rexworth x) {
    StringBuilder b = new StringBuilder();
    for (int i = 0; i < x.said(); i++) {
      for (int k = 0; k < x.saidLength(i); k++) {
        b.append(x.saidSign(i, k));
      }
      b.append('/');
    }
    return b.toString();
  }

  private static String queued(Rexworth x, int index) {
    StringBuilder b = new StringBuilder();
    try {
      while (b.length() < 1000) {
        b.append(x.queuedSign(index, b.length()));
      }
    } catch (NoSuchElementException e) {
      return b.toString();
    }
    return b.toString();
  }

  private static String command(Rexworth x, int index) {
    StringBuilder b = new StringBuilder();
    try {
      while (b.length() < 1000) {
        b.append(x.commandSign(index, b.length()));
      }
    } catch (NoSuchElementException e) {
      return b.toString();
    }
    return b.toString();
  }

  private static String value(Rexworth x, String word) {
    x.wipe();
    type(x, word);
    StringBuilder b = new StringBuilder(x.isSet() ? "=" : "-");
    for (int i = 0; i < x.valueLength(); i++) {
      b.append(x.valueSign(i));
    }
    return b.toString();
  }

  private static String asked(Call call) {
    try {
      return "" + call.make();
    } catch (RuntimeException e) {
      return e.getClass().getSimpleName();
    }
  }

  /** All that can be asked without changing anything. */
  private static String state(Rexworth x) {
    StringBuilder b = new StringBuilder();
    for (int i = 0; i < 41; i++) {
      int line = i;
      for (int k = 0; k < 61; k++) {
        int place = k;
        String sign = asked(() -> x.at(line, place));
        b.append(sign.length() > 1 ? sign.substring(0, 1) + ";" : sign);
      }
      b.append(asked(() -> x.done(line)));
    }
    b.append(asked(x::end)).append(asked(x::error)).append(asked(x::where)).append(asked(x::steps));
    b.append(asked(() -> said(x))).append(asked(x::isSet)).append(asked(x::valueLength));
    b.append(asked(x::queued)).append(asked(x::commands)).append(asked(x::digits));
    b.append(asked(x::depth)).append(asked(x::checksum)).append(asked(x::doneShare));
    b.append(asked(x::meanSaid)).append(asked(() -> x.reckon(9))).append(asked(x::isTrue));
    return b.toString();
  }

  // ---- what can be asked before anything is run

  private static void aNewObject() {
    Rexworth x = new Rexworth();
    due("1 wipe", x.wipe(), 0);
    due("1 clear", x.clear(), 0);
    due("1 bare", x.bare(), 0);
    due("1 checksum", x.checksum(), 7L);
    due("1 isTrue", x.isTrue(), true);
    thrown("1 at", x, INDEX, () -> x.at(0, 0));
    thrown("1 run", x, UNSUPPORTED, () -> x.run(1));
    Rexworth other = program("say 1");
    other.run(10);
    due("1 another object is another machine", x.clear(), 0);
  }

  private static void typing() {
    String all = "abcdefghijklmnopqrstuvwxyz0123456789 .,=+-*/%&|~<>()':";
    Rexworth x = new Rexworth();
    for (int i = 0; i < all.length(); i++) {
      due("2 type " + all.charAt(i), x.type(all.charAt(i)), i + 1);
    }
    for (char sign = 0; sign < 300; sign++) {
      char one = sign;
      if (all.indexOf(sign) < 0) {
        thrown("2 type sign " + (int) sign, x, ARGUMENT, () -> x.type(one));
      }
    }
    thrown("2 type 65535", x, ARGUMENT, () -> x.type('\uffff'));
    for (int i = all.length(); i < 60; i++) {
      x.type('a');
    }
    thrown("2 type the 61st", x, STATE, () -> x.type('a'));
    thrown("2 type the 61st, a wrong one", x, ARGUMENT, () -> x.type('A'));
    due("3 wipe", x.wipe(), 60);
    due("3 wipe again", x.wipe(), 0);
    due("2 type behind wipe", x.type('z'), 1);
  }

  private static void linesAndPlaces() {
    Rexworth x = new Rexworth();
    type(x, "say 'a'");
    due("4 line", x.line(), 0);
    due("4 line wipes", x.wipe(), 0);
    due("4 an empty line", x.line(), 1);
    type(x, "exit");
    due("4 a third line", x.line(), 2);
    due("6 at", x.at(0, 0), 's');
    due("6 at the end", x.at(0, 6), '\'');
    thrown("6 at behind the end", x, NO_ELEMENT, () -> x.at(0, 7));
    thrown("6 at ahead", x, NO_ELEMENT, () -> x.at(0, -1));
    thrown("6 at in an empty line", x, NO_ELEMENT, () -> x.at(1, 0));
    thrown("6 at no line", x, INDEX, () -> x.at(3, 0));
    thrown("6 at line -1", x, INDEX, () -> x.at(-1, -1));
    thrown("6 at the least", x, INDEX, () -> x.at(Integer.MIN_VALUE, Integer.MAX_VALUE));
    for (int i = 3; i < 40; i++) {
      x.type('b');
      due("4 line " + i, x.line(), i);
    }
    x.type('c');
    thrown("4 the 41st line", x, STATE, x::line);
    due("4 what was typed stays", x.wipe(), 1);
    due("5 clear", x.clear(), 40);
    due("5 clear again", x.clear(), 0);
    thrown("5 at behind clear", x, INDEX, () -> x.at(0, 0));
    due("4 line behind clear", x.line(), 0);
  }

  private static void givingArguments() {
    Rexworth x = program("parse arg a, b, c, d, e", "say a'/'b'/'c'/'d'/'e");
    type(x, "one two");
    due("7 argument", x.argument(), 1);
    due("7 argument wipes", x.wipe(), 0);
    due("7 an empty argument", x.argument(), 2);
    type(x, "3");
    due("7 argument 3", x.argument(), 3);
    type(x, "4");
    due("7 argument 4", x.argument(), 4);
    type(x, "5");
    thrown("7 argument 5", x, STATE, x::argument);
    x.run(10);
    due("7 runs have them", said(x), "one two//3/4//");
    due("8 bare", x.bare(), 4);
    due("8 bare again", x.bare(), 0);
    due("8 the last run had them", said(x), "one two//3/4//");
    due("8 and is made again with them", x.isTrue(), true);
    x.run(10);
    due("8 runs have none", said(x), "/////");
  }

  private static void running() {
    Rexworth x = program("a = a 1", "say a queued", "queue a", "'go'", "digits 5", "address b");
    thrown("9 run 0", x, ARGUMENT, () -> x.run(0));
    thrown("9 run -1", x, ARGUMENT, () -> x.run(-1));
    thrown("9 run 2001", x, ARGUMENT, () -> x.run(2001));
    due("9 run", x.run(2000), 'd');
    due("9 nothing is set as it begins", said(x), "a 1 queued/");
    due("9 run again", x.run(6), 'd');
    due("9 nothing is set as it begins again", said(x) + x.queued() + x.commands(), "a 1 queued/11");
    due("25 digits", x.digits(), 5);
    due("9 run 5", x.run(5), 'l');
    due("25 digits as over", x.digits(), 5);
    due("9 run 4", x.run(4), 'l');
    due("25 digits anew", x.digits(), 9);
    due("9 run 1", x.run(1), 'l');
    due("12 where over", x.where(), 1);
    due("9 by an error", program("", "say 1/0").run(9), 'x');
    Rexworth none = new Rexworth();
    thrown("9 no lines", none, UNSUPPORTED, () -> none.run(1));
    thrown("9 no lines, out of range", none, ARGUMENT, () -> none.run(0));
    due("9 an empty line is one", program("").run(1), 'd');
    x.run(2000);
    String before = said(x);
    x.clear();
    thrown("9 no lines any more", x, UNSUPPORTED, () -> x.run(1));
    due("9 the last run stays", said(x) + x.isTrue() + x.done(5), before + "true1");
    thrown("14 no line 6", x, INDEX, () -> x.done(6));
  }

  private static void howItEnded() {
    Rexworth x = program("say 1/0");
    thrown("10 end", x, STATE, x::end);
    thrown("11 error", x, STATE, x::error);
    thrown("12 where", x, STATE, x::where);
    thrown("13 steps", x, STATE, x::steps);
    thrown("14 done", x, STATE, () -> x.done(-1));
    x.run(5);
    due("10 end x", x.end(), 'x');
    due("11 error 42", x.error(), 42);
    due("12 where", x.where(), 0);
    due("13 steps", x.steps(), 1);
    due("14 done", x.done(0), 1);
    thrown("14 done 1", x, INDEX, () -> x.done(1));
    thrown("14 done -1", x, INDEX, () -> x.done(-1));
    Rexworth ended = ran("", "f:", "say 1");
    due("10 end d", ended.end(), 'd');
    thrown("11 no error", ended, NO_ELEMENT, ended::error);
    thrown("12 it has ended", ended, NO_ELEMENT, ended::where);
    due("13 steps of one clause", ended.steps(), 1);
    due("14 empty lines and labels", ended.done(0) + " " + ended.done(1) + " " + ended.done(2), "0 0 1");
    Rexworth over = program("do 5", "say 1", "end");
    over.run(3);
    due("10 end l", over.end(), 'l');
    thrown("11 no error as it is over", over, NO_ELEMENT, over::error);
    due("12 where it was over", over.where(), 0);
    due("13 steps as it is over", over.steps(), 3);
    due("14 done over", over.done(0) + " " + over.done(1) + " " + over.done(2), "1 1 1");
    over.run(4);
    due("12 where it was over then", over.where() + " " + over.done(0), "1 2");
    over.run(15);
    due("10 just enough steps", over.end() + " " + over.steps(), "d 15");
    over.run(14);
    due("10 one too few", over.end() + " " + over.where(), "l 2");
    Rexworth caught = ran("signal on syntax", "say 1/0", "syntax:", "say 2");
    thrown("11 a caught one is none", caught, NO_ELEMENT, caught::error);
  }

  private static void whatWasSaid() {
    Rexworth x = program("say 'ab'", "say ''", "say copies('c', 200)");
    thrown("15 said", x, STATE, x::said);
    thrown("16 saidLength", x, STATE, () -> x.saidLength(-1));
    thrown("17 saidSign", x, STATE, () -> x.saidSign(-1, -1));
    x.run(10);
    due("15 said", x.said(), 3);
    due("16 saidLength 0", x.saidLength(0), 2);
    due("16 saidLength 1", x.saidLength(1), 0);
    due("16 saidLength 2", x.saidLength(2), 200);
    thrown("16 saidLength 3", x, NO_ELEMENT, () -> x.saidLength(3));
    thrown("16 saidLength -1", x, NO_ELEMENT, () -> x.saidLength(-1));
    due("17 saidSign", x.saidSign(0, 1), 'b');
    due("17 saidSign the last", x.saidSign(2, 199), 'c');
    thrown("17 behind", x, NO_ELEMENT, () -> x.saidSign(0, 2));
    thrown("17 ahead", x, NO_ELEMENT, () -> x.saidSign(0, -1));
    thrown("17 in an empty one", x, NO_ELEMENT, () -> x.saidSign(1, 0));
    thrown("17 of none", x, NO_ELEMENT, () -> x.saidSign(3, 0));
  }

  private static void variables() {
    Rexworth x = program("a = 5", "x.a = 'two'", "s. = 7", "s.1 = 8", "drop s.2", "b = ''");
    type(x, "a");
    thrown("18 isSet", x, STATE, x::isSet);
    thrown("19 valueLength", x, STATE, x::valueLength);
    thrown("20 valueSign", x, STATE, () -> x.valueSign(0));
    x.wipe();
    thrown("18 isSet of nothing", x, STATE, x::isSet);
    x.run(20);
    String[] noWords = {
      "", " ", "   ", "1a", "a b", " a b", "a b ", "x. a", "x .a", ".a", " .a", "'a'", " 'a'",
      "' a'", "a+", "a +", "5", " 5 ", "a:", "a :", "a(", "a ()", "(a)", "."
    };
    for (String text : noWords) {
      x.wipe();
      type(x, text);
      thrown("18 isSet " + text, x, UNSUPPORTED, x::isSet);
      thrown("19 valueLength " + text, x, UNSUPPORTED, x::valueLength);
      thrown("20 valueSign " + text, x, UNSUPPORTED, () -> x.valueSign(-1));
    }
    due("18 a", value(x, "a"), "=5");
    due("18 c", value(x, "c"), "-c");
    due("18 b", value(x, "b"), "=");
    thrown("20 no place", x, NO_ELEMENT, () -> x.valueSign(0));
    due("18 x.a", value(x, "x.a"), "=two");
    due("18 x.5", value(x, "x.5"), "=two");
    thrown("20 behind", x, NO_ELEMENT, () -> x.valueSign(3));
    thrown("20 ahead", x, NO_ELEMENT, () -> x.valueSign(-1));
    due("18 x.c", value(x, "x.c"), "-x.c");
    due("18 x.a.a", value(x, "x.a.a"), "-x.5.5");
    due("18 x.", value(x, "x."), "-x.");
    due("18 s.", value(x, "s."), "=7");
    due("18 s.1", value(x, "s.1"), "=8");
    due("18 the stem of an element", value(x, "s.9"), "=7");
    due("18 a dropped element", value(x, "s.2"), "=7");
    due("20 what is typed stays", x.wipe(), 3);
    due("18 a blank ahead", value(x, " a"), "=5");
    due("19 a blank behind", value(x, "a "), "=5");
    due("20 blanks round it", value(x, "   a  "), "=5");
    due("18 blanks round an element", value(x, "  x.a "), "=two");
    due("18 blanks round one of a stem", value(x, " s.9 "), "=7");
    due("19 blanks round what is not set", value(x, " x.c "), "-x.c");
    due("19 blanks and an empty value", value(x, " b "), "=");
    thrown("20 no place in blanks", x, NO_ELEMENT, () -> x.valueSign(0));
    due("18 up to the last sign", value(x, " ".repeat(59) + "a"), "=5");
    due("18 from the first sign", value(x, "a" + " ".repeat(59)), "=5");
    due("20 what is typed stays with its blanks", x.wipe(), 60);
    Rexworth inner = ran("a = 1", "call f", "exit", "f:", "procedure expose x.", "a = 2", "x.1 = 3", "exit");
    due("18 the variables of the last clause", value(inner, "a") + value(inner, "x.1"), "=2=3");
    Rexworth back = ran("a = 1", "call f", "exit", "f:", "procedure expose x.", "a = 2", "x.1 = 3", "return");
    due("18 the caller's", value(back, "a") + value(back, "x.1") + value(back, "result"), "=1=3-result");
    Rexworth caught = ran("a = 1", "signal on syntax", "call f", "f:", "procedure", "a = 2", "say 1/0", "syntax:");
    due("18 as calls are left", value(caught, "a") + caught.depth(), "=10");
    Rexworth failed = ran("a = 1", "call f", "f:", "procedure", "a = 2", "say 1/0");
    due("18 as an error ends it", value(failed, "a") + failed.depth(), "=21");
  }

  private static void queueAndCommands() {
    Rexworth x = program("queue 'a'", "push 'bc'", "queue ''", "'go' 1 + 1", "address env.", "foo");
    thrown("21 queued", x, STATE, x::queued);
    thrown("22 queuedSign", x, STATE, () -> x.queuedSign(-1, 0));
    thrown("23 commands", x, STATE, x::commands);
    thrown("24 commandSign", x, STATE, () -> x.commandSign(-1, 0));
    x.run(4);
    due("21 queued", x.queued(), 3);
    due("22 the queue", queued(x, 0) + "/" + queued(x, 1) + "/" + queued(x, 2), "bc/a/");
    thrown("22 behind", x, NO_ELEMENT, () -> x.queuedSign(0, 2));
    thrown("22 ahead", x, NO_ELEMENT, () -> x.queuedSign(0, -1));
    thrown("22 an empty one", x, NO_ELEMENT, () -> x.queuedSign(2, 0));
    thrown("22 none", x, NO_ELEMENT, () -> x.queuedSign(3, 0));
    thrown("22 none ahead", x, NO_ELEMENT, () -> x.queuedSign(-1, 0));
    due("23 commands", x.commands(), 1);
    due("24 command", command(x, 0), "host go 2");
    thrown("24 behind", x, NO_ELEMENT, () -> x.commandSign(0, 9));
    thrown("24 ahead", x, NO_ELEMENT, () -> x.commandSign(0, -1));
    thrown("24 none", x, NO_ELEMENT, () -> x.commandSign(1, 0));
    thrown("24 none ahead", x, NO_ELEMENT, () -> x.commandSign(-1, 0));
    due("23 rc", value(x, "rc"), "=2");
    Rexworth most = ran("do i = 1 to 35", "queue i", "i", "end", "push 'lost'");
    due("21 at most 20", most.queued() + queued(most, 0) + "/" + queued(most, 19), "201/20");
    due("23 at most 30", most.commands() + command(most, 29), "30host 30");
    due("23 rc of one that is not kept", value(most, "rc"), "=1");
    Rexworth pushed = ran("do i = 1 to 25", "push i", "end", "pull a", "pull b.a", "queue 'z'");
    due("21 pushed at most 20", pushed.queued() + queued(pushed, 0) + queued(pushed, 18), "1918z");
    due("21 pulled", value(pushed, "a") + value(pushed, "b.20"), "=20=19");
    Rexworth empty = ran("a = 1", "pull a", "say a'.'");
    due("21 pulled without one", said(empty), "./");
    Rexworth named = ran("address mine", "'x y  z'", "''", "address other", "5");
    due("24 environments", command(named, 0) + "/" + command(named, 1) + "/" + command(named, 2),
        "mine x y  z/mine /other 5");
  }

  private static void depthAndDigits() {
    Rexworth x = program("call f", "f:", "call g", "g:", "interpret 'exit'");
    thrown("25 digits", x, STATE, x::digits);
    thrown("26 depth", x, STATE, x::depth);
    x.run(10);
    due("26 depth", x.depth(), 2);
    due("25 digits at first", x.digits(), 9);
    due("26 depth 0", ran("call f", "exit", "f:", "return").depth(), 0);
    Rexworth many = ran("f:", "call f");
    due("26 the most", many.depth() + " " + many.error() + " " + many.where() + " " + many.steps(), "20 45 1 21");
    due("25 digits 20", ran("digits 20").digits(), 20);
    due("25 digits 1", ran("digits 1").digits(), 1);
    due("25 digits 21", ran("digits 21").error(), 26);
    due("25 digits 0", ran("digits 0").error(), 26);
    due("25 digits by no number", ran("digits a").error(), 26);
    due("25 digits by no whole number", ran("digits 1.5").error(), 26);
  }

  private static void reckoning() {
    Rexworth x = new Rexworth();
    type(x, "2 / 3");
    thrown("27 reckon 0", x, ARGUMENT, () -> x.reckon(0));
    thrown("27 reckon 21", x, ARGUMENT, () -> x.reckon(21));
    thrown("28 reckoned 0", x, ARGUMENT, () -> x.reckoned(0, -1));
    thrown("28 reckoned 21", x, ARGUMENT, () -> x.reckoned(21, 0));
    due("27 reckon 1", x.reckon(1), 3);
    due("27 reckon 20", x.reckon(20), 22);
    due("28 reckoned", x.reckoned(5, 6), '7');
    thrown("28 behind", x, NO_ELEMENT, () -> x.reckoned(5, 7));
    thrown("28 ahead", x, NO_ELEMENT, () -> x.reckoned(5, -1));
    due("27 what is typed stays", x.wipe(), 5);
    due("27 nothing", x.reckon(9), -20);
    thrown("28 nothing", x, NO_ELEMENT, () -> x.reckoned(9, 0));
    type(x, "1/0");
    due("27 an error", x.reckon(9), -42);
    thrown("28 an error", x, NO_ELEMENT, () -> x.reckoned(9, 0));
    x.wipe();
    type(x, "''");
    due("27 an empty value", x.reckon(9), 0);
    thrown("28 an empty value", x, NO_ELEMENT, () -> x.reckoned(9, 0));
    Rexworth set = ran("a = 5", "f:", "return 1");
    type(set, "a");
    due("27 nothing is set", set.reckoned(9, 0), 'a');
    set.wipe();
    type(set, "f()");
    due("27 no lines are there", set.reckon(9), -43);
    due("27 the last run stays", value(set, "a") + set.steps() + set.isTrue(), "=52true");
  }

  private static void sums() {
    Rexworth x = program("say 'ab'", "exit", "say 3");
    thrown("30 doneShare", x, STATE, x::doneShare);
    thrown("31 meanSaid", x, STATE, x::meanSaid);
    due("29 nothing was run", x.checksum(), 7L);
    x.run(9);
    long sum = ((7 * 31 + 'a') * 31 + 'b') * 31 + 2;
    due("29 checksum", x.checksum(), sum * 31 + 2);
    due("30 doneShare", x.doneShare(), 2f / 3f);
    due("31 meanSaid", x.meanSaid(), 2.0);
    Rexworth mean = ran("say 'ab'", "say ''", "say 3");
    due("31 meanSaid of three", mean.meanSaid(), 3.0 / 3.0);
    due("31 meanSaid of two", ran("say 'ab'", "say 3").meanSaid(), 1.5);
    Rexworth silent = ran("a = 1");
    thrown("31 nothing was said", silent, ArithmeticException.class, silent::meanSaid);
    due("29 nothing was said", silent.checksum(), 7L * 31 + 1);
    due("30 all", silent.doneShare(), 1f);
    due("30 none", ran("", "f:").doneShare(), 0f);
    x.clear();
    due("30 of those that were run", x.doneShare(), 2f / 3f);
  }

  private static void truth() {
    Rexworth x = ran("i = 0", "do while i < 4", "i = i + 1", "interpret 'say i'", "call f i", "end",
        "exit", "f:", "procedure", "parse arg n", "return n * 2");
    due("32 isTrue", x.isTrue(), true);
    due("32 isTrue again", x.isTrue(), true);
    due("32 steps", x.steps() - x.done(1) - x.done(3) - x.done(4) * 4 - x.done(5) - x.done(2) - 2, 4);
    due("32 as it is over", isTrueOf(7, "do i = 1", "say i", "end"), true);
    due("32 as it failed", isTrueOf(7, "say copies('a', 201)"), true);
    due("32 with nothing run", program("say 1").isTrue(), true);
    Rexworth changed = ran("say 1");
    changed.clear();
    type(changed, "say 2");
    changed.line();
    due("32 by its own lines", changed.isTrue() + said(changed), "true1/");
  }

  private static boolean isTrueOf(int steps, String... lines) {
    Rexworth x = program(lines);
    x.run(steps);
    return x.isTrue();
  }

  public static void main(String[] args) {
    aNewObject();
    typing();
    linesAndPlaces();
    givingArguments();
    running();
    howItEnded();
    whatWasSaid();
    variables();
    queueAndCommands();
    depthAndDigits();
    reckoning();
    sums();
    truth();
    System.out.println(wrong == 0 ? "all answers are as due" : wrong + " answers are wrong");
    if (wrong != 0) {
      System.exit(1);
    }
  }
}
