import java.util.ArrayList;
import java.util.List;
import java.util.Random;

/** Makes random programs and expressions, a good part of which goes wrong somewhere. */
final class Maker {
  final Random random;

  Maker(Random random) {
    this.random = random;
  }

  static final String[] NAMES = {"a", "b", "i", "x", "n", "x.", "x.i", "x.1", "y.a.b", "y.", "x.a",
    "rc", "result", "y.2.i", "x..", "x.i."};
  static final String[] LABELS = {"f", "g", "syntax", "novalue", "length", "h"};
  static final String[] NUMBERS = {"0", "1", "2", "3", "7", "10", "12", "0.5", "1.50", ".25", "5.",
    "99", "100", "123456789", "1234567890123", "0.001", "00.10", "999999999.5", "12345678901234567890",
    "33", "0.0000001", "20", "1.1"};
  static final String[] TEXTS = {"'1e5'", "'abc'", "' 12 '", "''", "'a b  c'", "'1e99'", "'-1.5e-20'",
    "'+3'", "'e'", "' '", "'say 5'", "'9e-99'", "'a'", "'1.e2'", "'x/y/z'", "'- 5'", "'-0'",
    "'0.00'", "'1e-1'", "'.5e+3'", "'99e98'"};

  List<String> words() {
    return List.of("a", "b", "i", "x", "n", "x.", "x.i", "x.1", "y.a.b", "y.", "x.a", "y.2.i", "x..");
  }

  String pick(String[] list) {
    return list[random.nextInt(list.length)];
  }

  String plainText() {
    String t = pick(TEXTS);
    return random.nextBoolean() ? t.substring(1, t.length() - 1) : pick(NUMBERS);
  }

  /** Whether most of what is made shall go well. */
  boolean calm;

  String operand(int depth) {
    int k = random.nextInt(20);
    if (calm && k < 14 && k != 5) {
      return k < 7 ? pick(new String[] {"a", "b", "i", "n"}) : "" + (1 + random.nextInt(9));
    }
    if (k < 6) {
      return pick(NAMES);
    }
    if (k < 11) {
      return pick(NUMBERS);
    }
    if (k < 14) {
      return pick(TEXTS);
    }
    if (depth <= 0) {
      return "" + random.nextInt(4);
    }
    if (k < 16) {
      return "(" + expression(depth - 1) + ")";
    }
    if (k < 17) {
      return pick(new String[] {"-", "+", "~"}) + operand(depth - 1);
    }
    return called(depth);
  }

  String called(int depth) {
    switch (random.nextInt(14)) {
      case 0: return "length(" + expression(0) + ")";
      case 1: return "words(" + expression(0) + ")";
      case 2: return "word(" + expression(0) + "," + random.nextInt(4) + ")";
      case 3: return "substr(" + operand(0) + "," + random.nextInt(4) + "," + random.nextInt(9) + ")";
      case 4: return "copies(" + operand(0) + "," + random.nextInt(6) + ")";
      case 5: return "pos(" + operand(0) + "," + operand(0) + ")";
      case 6: return "abs(" + expression(0) + ")";
      case 7: return "max(" + operand(0) + "," + operand(0) + ")";
      case 8: return "min(" + operand(0) + "," + operand(0) + ")";
      case 9: return "f(" + operand(0) + ")";
      case 10: return "g()";
      case 11: return "h(" + operand(0) + "," + operand(0) + ")";
      default: return pick(LABELS) + "(" + (random.nextBoolean() ? "" : operand(depth - 1)) + ")";
    }
  }

  static final String[] OPERATORS = {"+", "-", "*", "/", "%", "//", "**", "||", " ", "", "=", "~=",
    "<", ">", "<=", ">=", "==", "&", "|", " + ", " * ", " = ", " / ", "-", "+"};

  static final String[] CALM = {"+", "-", "*", " + ", " ", " - ", "=", "<", "||"};

  String expression(int depth) {
    if (calm && random.nextInt(8) != 0) {
      return operand(depth) + pick(CALM) + operand(depth - 1);
    }
    StringBuilder b = new StringBuilder(operand(depth));
    for (int i = random.nextInt(depth + 2); i > 0; i--) {
      b.append(pick(OPERATORS)).append(operand(depth - 1));
    }
    if (random.nextInt(120) == 0) {
      b.append(pick(new String[] {")", "(", ",", "=", "'", "*", ":", "."}));
    }
    return b.toString();
  }

  String template() {
    StringBuilder b = new StringBuilder();
    for (int i = random.nextInt(6); i > 0; i--) {
      String item = pick(new String[] {"a", "b", "i", "x.i", "x.", ".", "a", "b", "x.1", "n", "' '",
        "'b'", "','", "1", "3", "+1", "-2", "5", ",", "+ 2", "'/'", "2.0", "1.5", "0", "99", "'ab'"});
      b.append(' ').append(item);
    }
    return b.toString();
  }

  List<String> program() {
    List<String> lines = new ArrayList<>();
    calm = random.nextBoolean();
    int size = 1 + random.nextInt(12);
    if (calm) {
      for (String name : new String[] {"a", "b", "i", "n", "x."}) {
        lines.add(name + " = " + random.nextInt(5));
      }
      size = 1 + random.nextInt(7);
    }
    if (random.nextInt(3) == 0) {
      lines.add("signal on " + pick(new String[] {"syntax", "novalue"}));
    }
    block(lines, size, 3);
    if (random.nextBoolean()) {
      lines.add("exit");
    }
    if (calm) {
      if (lines.size() < 28) {
        routines(lines);
      }
      return fitting(lines);
    }
    int routines = random.nextInt(4);
    for (int i = 0; i < routines; i++) {
      lines.add(pick(LABELS) + ":");
      if (random.nextInt(6) == 0) {
        lines.add(random.nextBoolean() ? "" : "h:");
      }
      if (random.nextInt(2) == 0) {
        lines.add("procedure" + pick(new String[] {"", " expose a", " expose x. b", " expose i y."}));
      }
      if (random.nextBoolean()) {
        lines.add("parse arg" + template());
      }
      block(lines, random.nextInt(4), 2);
      lines.add("return" + (random.nextInt(4) == 0 ? "" : " " + fit(expression(1), 52)));
    }
    return fitting(lines);
  }

  /** All labels, with what mostly returns. */
  void routines(List<String> lines) {
    lines.addAll(List.of("f:", "procedure expose x. b", "parse arg a b, n"));
    lines.add("return a + " + fit(expression(1), 40));
    lines.addAll(List.of("syntax:", "say 'caught' i", "signal on syntax"));
    lines.add(pick(new String[] {"return 3", "i = i + 1", "signal g", "a = 1"}));
    lines.addAll(List.of("g:", clause(), "return " + fit(expression(1), 50)));
    lines.addAll(List.of("novalue:", "b = b + 1", "h:"));
    if (random.nextBoolean()) {
      lines.add("procedure");
    }
    lines.addAll(List.of(clause(), "return b"));
  }

  static List<String> fitting(List<String> lines) {
    while (lines.size() > 40) {
      lines.remove(lines.size() - 1);
    }
    List<String> fitting = new ArrayList<>();
    for (String line : lines) {
      fitting.add(fit(line, 60));
    }
    return fitting;
  }

  /** The text with a sign or two taken away, put in, or put elsewhere. */
  String spoilt(String text) {
    String all = "abeiotwx0159 .,=+-*/%&|~<>()':";
    StringBuilder b = new StringBuilder(text);
    for (int i = random.nextInt(3); i >= 0; i--) {
      int at = random.nextInt(b.length() + 1);
      char sign = all.charAt(random.nextInt(all.length()));
      if (random.nextBoolean()) {
        b.insert(at, sign);
      } else if (at < b.length()) {
        b.deleteCharAt(at);
      }
    }
    return fit(b.toString(), 60);
  }

  static String fit(String text, int most) {
    return text.length() > most ? text.substring(0, most) : text;
  }

  /** A line that may well be a piece of one that is longer. */
  String longClause() {
    String text = clause();
    for (int i = random.nextInt(6); i > 0; i--) {
      text += pick(OPERATORS) + expression(2);
    }
    return random.nextInt(4) == 0 ? spoilt(fit(text, 60)) : fit(text, 60);
  }

  String longInterpret() {
    return pick(new String[] {"interpret p", "interpret q", "interpret p q", "interpret p'+'q",
      "interpret 'say' p", "interpret 'x.i =' p'*'q", "interpret p||q||r", "interpret p||q||r||s",
      "interpret 'a =' p'||'q'||'r'||'s", "interpret 'do' p", "interpret 'call f' p','q',' r",
      "interpret copies('-', 150)p", "interpret 'say' copies('(', 60)p||copies(')', 60)",
      "interpret 'parse var p' copies('a ', 60)q", "interpret 'drop' copies('x.i ', 40)"});
  }

  void block(List<String> lines, int size, int depth) {
    for (int i = 0; i < size; i++) {
      if (depth > 0 && random.nextInt(5) == 0) {
        lines.add(head());
        block(lines, 1 + random.nextInt(3), depth - 1);
        if (random.nextInt(3) == 0) {
          lines.add("else");
          block(lines, random.nextInt(3), depth - 1);
        }
        if (random.nextInt(40) != 0) {
          lines.add("end");
        }
      } else {
        lines.add(clause());
      }
    }
  }

  String head() {
    switch (random.nextInt(9)) {
      case 0: return "do";
      case 1: return "do " + random.nextInt(5);
      case 2: return "do i = " + random.nextInt(5) + " to " + random.nextInt(9);
      case 3: return "do n = " + operand(0) + " to " + operand(0) + " by " + operand(0);
      case 4: return "do while " + pick(new String[] {"a", "b", "i", "n"}) + " < " + operand(0);
      case 5: return "do x.i = 3 to 1 by -1 while " + expression(1);
      case 6: return "do a = 1 while a < " + random.nextInt(9);
      case 7: return "do " + expression(1) + (random.nextBoolean() ? "" : " while " + expression(1));
      default: return "if " + (random.nextInt(3) == 0 ? "" : operand(0) + " < ") + operand(0);
    }
  }

  String clause() {
    switch (random.nextInt(34)) {
      case 0: case 1: case 2: case 3: case 4: case 5:
        return pick(NAMES) + " = " + expression(2);
      case 6: case 7: case 8: case 9: case 10:
        return "say " + expression(2);
      case 11: return "parse var " + pick(NAMES) + template();
      case 12: return "parse value " + expression(1) + " with" + template();
      case 13: return "parse arg" + template();
      case 14: return "drop " + pick(NAMES) + " " + pick(NAMES);
      case 15: return "digits " + (random.nextInt(6) == 0 ? expression(0) : "" + random.nextInt(22));
      case 16: return "signal " + pick(LABELS);
      case 17: return "signal on " + pick(new String[] {"syntax", "novalue"});
      case 18: return "signal off " + pick(new String[] {"syntax", "novalue"});
      case 19: return "push " + expression(1);
      case 20: return "queue " + expression(1);
      case 21: return "pull " + pick(NAMES);
      case 22: return "interpret " + pick(new String[] {"'say a b'", "'a = a + 1'", "'call f'", "a",
        "'return 5'", "'signal g'", "'exit'", "'end'", "''", "'f:'", "'interpret b'", "'x.i = i'",
        "'drop a x.'", "'parse arg a b'", "expression", "'say' i", "'signal on syntax'",
        "'b = f(2)'", "'address' x", "'(' "});
      case 23: return "address " + pick(new String[] {"host", "ab", "c1"});
      case 24: return pick(new String[] {"'go' a", "foo", "a b x.i", "'   '"});
      case 25: case 26:
        return "call " + pick(LABELS) + (random.nextBoolean() ? "" : " " + operand(0) + ", " + operand(0));
      case 27: return pick(new String[] {"leave", "iterate"});
      case 28: return pick(new String[] {"", "", "g:", "f:", "end", "else", "procedure"});
      case 29: return "a = a" + pick(new String[] {"||a", "+1", " a", "*a"});
      case 30: return "b = copies(a, " + random.nextInt(9) + ")";
      case 31: return pick(new String[] {"say", "exit 5", "end x", "x.i.j = 1 +", "do i = 1 to", "5 + ",
        "call 5", "signal on x", "parse foo", "if", "address 5", "else 1", "x = 'a", "return", "i = i+1"});
      default: return pick(NAMES) + " = " + operand(0);
    }
  }
}
