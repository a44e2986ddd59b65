import java.util.NoSuchElementException;

/** How tests, which extend it, make machines, ask them, and tell what is not as due. */
abstract class Asking {
  private static int wrong = 0;

  interface Call {
    Object make();
  }

  static void due(String what, Object got, Object want) {
    if (!got.equals(want)) {
      wrong++;
      System.out.println(what + "\n  gives " + got + "\n  due is " + want);
    }
  }

  /** Tells how many answers were wrong, and ends with exit code 1 if there was one. */
  static void finish() {
    System.out.println(wrong == 0 ? "all answers are as due" : wrong + " answers are wrong");
    if (wrong != 0) {
      System.exit(1);
    }
  }

  /** What a call answers, or the name of the exception that it throws. */
  static String asked(Call call) {
    try {
      return "" + call.make();
    } catch (RuntimeException e) {
      return e.getClass().getSimpleName();
    }
  }

  static void thrown(String what, Class<?> want, Call call) {
    due(what, asked(call), want.getSimpleName());
  }

  static void type(Rexworth x, String text) {
    for (char sign : text.toCharArray()) {
      x.type(sign);
    }
  }

  /** A machine with the lines of a program, which are parted by ';'. */
  static Rexworth program(String text) {
    Rexworth x = new Rexworth();
    for (String line : text.split(";", -1)) {
      type(x, line);
      x.line();
    }
    return x;
  }

  static Rexworth ran(String text) {
    return ran(2000, text);
  }

  static Rexworth ran(int steps, String text, String... arguments) {
    Rexworth x = program(text);
    for (String argument : arguments) {
      type(x, argument);
      x.argument();
    }
    x.run(steps);
    return x;
  }

  /** What was said, with a '/' behind each line. */
  static String said(Rexworth x) {
    StringBuilder b = new StringBuilder();
    for (int i = 0; i < x.said(); i++) {
      for (int k = 0; k < x.saidLength(i); k++) {
        b.append(x.saidSign(i, k));
      }
      b.append('/');
    }
    return b.toString();
  }

  /** How a run ended, if not well, and where. */
  static String ended(Rexworth x) {
    switch (x.end()) {
      case 'd': return "";
      case 'l': return " over " + x.where();
      default: return " " + x.error() + " at " + x.where();
    }
  }

  /** The value of a word as the run ended, behind '=' if it is set, else '-'; it is typed then. */
  static String value(Rexworth x, String word) {
    x.wipe();
    type(x, word);
    StringBuilder b = new StringBuilder(x.isSet() ? "=" : "-");
    for (int i = 0; i < x.valueLength(); i++) {
      b.append(x.valueSign(i));
    }
    return b.toString();
  }

  private interface Signs {
    char at(int place);
  }

  private static String all(Signs signs) {
    StringBuilder b = new StringBuilder();
    try {
      while (b.length() < 1000) {
        b.append(signs.at(b.length()));
      }
    } catch (NoSuchElementException e) {
      return b.toString();
    }
    return b.toString();
  }

  static String queued(Rexworth x, int index) {
    return all(place -> x.queuedSign(index, place));
  }

  /** All lines that wait, with a '/' behind each. */
  static String queue(Rexworth x) {
    StringBuilder b = new StringBuilder();
    for (int i = 0; i < x.queued(); i++) {
      b.append(queued(x, i)).append('/');
    }
    return b.toString();
  }

  static String command(Rexworth x, int index) {
    return all(place -> x.commandSign(index, place));
  }

  /** The value of the expression that is typed, or its error, with so many digits. */
  static String reckoned(Rexworth x, int digits) {
    int size = x.reckon(digits);
    StringBuilder b = new StringBuilder(size < 0 ? "error " + -size : "");
    for (int i = 0; i < size; i++) {
      b.append(x.reckoned(digits, i));
    }
    return b.toString();
  }

  static void gives(int digits, String expression, String want) {
    Rexworth x = new Rexworth();
    type(x, expression);
    due(expression + " with " + digits + " digits", reckoned(x, digits), want);
  }

  static void gives(String expression, String want) {
    gives(9, expression, want);
  }

  /** What a program says, with a '/' behind each line, and how it ends, if not well. */
  static void says(String text, String want, String... arguments) {
    saysWithin(2000, text, want, arguments);
  }

  static void saysWithin(int steps, String text, String want, String... arguments) {
    Rexworth x = ran(steps, text, arguments);
    due(text, said(x) + ended(x), want);
    due(text + " is true", x.isTrue(), true);
  }
}
