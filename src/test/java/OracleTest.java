import java.math.BigDecimal;
import java.math.BigInteger;
import java.math.RoundingMode;
import java.util.ArrayList;
import java.util.HashMap;
import java.util.HashSet;
import java.util.List;
import java.util.Map;
import java.util.NoSuchElementException;
import java.util.Random;
import java.util.Set;

/**
 * Runs random programs on the machine and on a second one, which is written in another way (with
 * recursion, maps, texts and BigDecimal), and compares all that can be asked.
 */
public final class OracleTest {
  private static int wrong = 0;

  public static void main(String[] args) throws InterruptedException {
    int rounds = args.length > 0 ? Integer.parseInt(args[0]) : 4000;
    long seed = args.length > 1 ? Long.parseLong(args[1]) : 1;
    // twenty interprets of long texts with brackets need many levels of the second machine
    Thread wide = new Thread(null, () -> compare(rounds, seed), "wide", 256L << 20);
    wide.setUncaughtExceptionHandler((thread, thrown) -> {
      thrown.printStackTrace();
      System.exit(1);
    });
    wide.start();
    wide.join();
    if (wrong != 0) {
      System.exit(1);
    }
  }

  private static void compare(int rounds, long seed) {
    Map<String, Integer> ends = new HashMap<>();
    for (int i = 0; i < rounds && wrong < 3; i++) {
      String how = program(new Random(seed * 1000003L + i));
      ends.merge(how, 1, Integer::sum);
    }
    for (int i = 0; i < rounds * 5 && wrong < 3; i++) {
      expression(new Random(seed * 7000003L + i));
    }
    System.out.println("how programs ended: " + new java.util.TreeMap<>(ends));
    System.out.println(wrong == 0 ? "all is as due" : wrong + " wrong");
  }

  // ---- the comparison

  private static void type(Rexworth x, String text) {
    for (char sign : text.toCharArray()) {
      x.type(sign);
    }
  }

  private static String expressionText(Random random) {
    return new Maker(random).expression(3);
  }

  /** An operator between two numbers of all sizes. */
  private static String sumText(Random random) {
    String[] operators = {"+", "-", "*", "/", "%", "//", "**", "=", "<"};
    String operator = operators[random.nextInt(operators.length)];
    String right = operator.equals("**") ? (random.nextBoolean() ? "-" : "") + random.nextInt(100)
        : number(random);
    return number(random) + operator + right;
  }

  private static String number(Random random) {
    StringBuilder b = new StringBuilder();
    int size = 1 + random.nextInt(random.nextBoolean() ? 4 : 22);
    int dot = random.nextInt(3) == 0 ? random.nextInt(size + 1) : -1;
    int kind = random.nextInt(4);
    for (int i = 0; i < size; i++) {
      b.append(i == dot ? "." : "");
      b.append(kind == 0 ? 9 : kind == 1 && i > 0 ? 0 : random.nextInt(10));
    }
    b.append(random.nextInt(4) == 0 ? "e" + (random.nextInt(199) - 99) : "");
    return "'" + (random.nextInt(3) == 0 ? "-" : "") + b + "'";
  }

  private static void expression(Random random) {
    String text = random.nextInt(3) == 0 ? expressionText(random) : sumText(random);
    text = random.nextInt(4) == 0 ? new Maker(random).spoilt(text) : text;
    text = text.length() > 60 ? text.substring(0, 60) : text;
    int digits = 1 + random.nextInt(20);
    Oracle oracle = new Oracle(new ArrayList<>(), new ArrayList<>(), 0);
    String due;
    try {
      due = oracle.reckon(text, digits);
    } catch (Trouble e) {
      due = "error " + e.number;
    }
    Rexworth x = new Rexworth();
    type(x, text);
    int size = x.reckon(digits);
    String got;
    if (size < 0) {
      got = "error " + -size;
    } else {
      StringBuilder b = new StringBuilder();
      for (int i = 0; i < size; i++) {
        b.append(x.reckoned(digits, i));
      }
      got = b.toString();
    }
    if (!got.equals(due)) {
      wrong++;
      System.out.println("reckon " + digits + ": " + text + "\n  got " + got + "\n  due " + due);
    }
  }

  private static String program(Random random) {
    Maker maker = new Maker(random);
    List<String> lines = maker.program();
    if (random.nextInt(4) == 0) {
      for (int i = random.nextInt(4); i >= 0; i--) {
        int line = random.nextInt(lines.size());
        lines.set(line, maker.spoilt(lines.get(line)));
      }
    }
    List<String> arguments = new ArrayList<>();
    boolean isTexts = random.nextInt(3) > 0;
    for (int i = random.nextInt(5); i > 0; i--) {
      arguments.add(isTexts ? maker.plainText() : maker.longClause());
    }
    if (!isTexts && lines.size() < 37) {
      lines.add(0, "parse arg p, q, r, s");
      lines.add(random.nextInt(lines.size() + 1), maker.longInterpret());
      lines.add(random.nextInt(lines.size() + 1), maker.longInterpret());
    }
    int steps = random.nextInt(4) == 0 ? 1 + random.nextInt(60) : 300 + random.nextInt(1701);
    Oracle oracle = new Oracle(lines, arguments, steps);
    oracle.run();
    Rexworth x = new Rexworth();
    for (String line : lines) {
      type(x, line);
      x.line();
    }
    for (String argument : arguments) {
      type(x, argument);
      x.argument();
    }
    x.run(steps);
    List<String> words = new ArrayList<>(maker.words());
    words.add("rc");
    words.add("result");
    String got = told(x, words, lines.size());
    String due = oracle.told(words);
    if (!got.equals(due) || !x.isTrue()) {
      wrong++;
      System.out.println("program with " + steps + " steps, arguments " + arguments);
      for (int i = 0; i < lines.size(); i++) {
        System.out.println("  " + i + "  " + lines.get(i));
      }
      System.out.println("got\n" + got + "due\n" + due);
    }
    return oracle.end + (oracle.end == 'x' ? "" + oracle.error : "");
  }

  private static String told(Rexworth x, List<String> words, int lines) {
    StringBuilder b = new StringBuilder();
    b.append(x.end());
    if (x.end() == 'x') {
      b.append(" error ").append(x.error());
    }
    if (x.end() != 'd') {
      b.append(" where ").append(x.where());
    }
    b.append(" steps ").append(x.steps()).append(" digits ").append(x.digits());
    b.append(" depth ").append(x.depth()).append("\ndone");
    for (int i = 0; i < lines; i++) {
      b.append(' ').append(x.done(i));
    }
    b.append('\n');
    for (int i = 0; i < x.said(); i++) {
      b.append("said <");
      for (int k = 0; k < x.saidLength(i); k++) {
        b.append(x.saidSign(i, k));
      }
      b.append(">\n");
    }
    for (int i = 0; i < x.queued(); i++) {
      b.append("queued <");
      try {
        for (int k = 0; k < 201; k++) {
          b.append(x.queuedSign(i, k));
        }
      } catch (NoSuchElementException e) {
        b.append(">\n");
      }
    }
    for (int i = 0; i < x.commands(); i++) {
      b.append("command <");
      try {
        for (int k = 0; k < 500; k++) {
          b.append(x.commandSign(i, k));
        }
      } catch (NoSuchElementException e) {
        b.append(">\n");
      }
    }
    for (String word : words) {
      x.wipe();
      type(x, word);
      b.append(word).append(x.isSet() ? " = <" : " - <");
      for (int k = 0; k < x.valueLength(); k++) {
        b.append(x.valueSign(k));
      }
      b.append(">\n");
    }
    b.append("checksum ").append(x.checksum()).append('\n');
    return b.toString();
  }

  // ---- the second machine

  private static final class Trouble extends RuntimeException {
    final int number;

    Trouble(int number) {
      super(null, null, false, false);
      this.number = number;
    }
  }

  /** Leaves calls as a condition goes to its label, or as a run ends. */
  private static final class Leap extends RuntimeException {
    final int called;
    final int label;

    Leap(int called, int label) {
      super(null, null, false, false);
      this.called = called;
      this.label = label;
    }
  }

  private static final class Novalue extends RuntimeException {
    Novalue() {
      super(null, null, false, false);
    }
  }

  /** Told by a clause: what comes next. */
  private static final class Return extends RuntimeException {
    final String value;

    Return(String value) {
      super(null, null, false, false);
      this.value = value;
    }
  }

  private record Part(char kind, String text, int begin, int end) {
  }

  private static final class Pool {
    final Map<String, String> names = new HashMap<>();
    final Map<String, String> stems = new HashMap<>();
    final Map<String, Map<String, String>> elements = new HashMap<>();
    final Pool caller;
    final Set<String> exposed = new HashSet<>();

    Pool(Pool caller) {
      this.caller = caller;
    }

    Pool of(String name) {
      Pool pool = this;
      while (pool.caller != null && pool.exposed.contains(name)) {
        pool = pool.caller;
      }
      return pool;
    }
  }

  private static final class Block {
    String kind;
    int begin;
    int end;
    int other = -1;
    long left;
    String name;
    BigDecimal to;
    BigDecimal by;
    List<Part> condition;
  }

  private static final class Frame {
    List<String> arguments;
    List<Block> blocks = new ArrayList<>();
    boolean fresh;
    int interprets;
  }

  private static final class Oracle {
    final List<String> lines;
    final List<List<Part>> parts = new ArrayList<>();
    final List<String> kinds = new ArrayList<>();
    final List<String> arguments;
    final int limit;
    char end;
    int error;
    int where;
    int steps;
    int digits = 9;
    int called;
    int underWay;
    int[] done;
    int line;
    String environment = "host";
    Pool pool = new Pool(null);
    List<String> said = new ArrayList<>();
    List<String> queue = new ArrayList<>();
    List<String> commands = new ArrayList<>();
    Integer[] told = new Integer[2];
    boolean over;
    boolean ended;

    Oracle(List<String> lines, List<String> arguments, int limit) {
      this.lines = lines;
      this.arguments = arguments;
      this.limit = limit;
      done = new int[lines.size()];
      for (String text : lines) {
        List<Part> list = split(text);
        parts.add(list);
        kinds.add(kind(list));
      }
    }

    String told(List<String> words) {
      StringBuilder b = new StringBuilder();
      b.append(end);
      if (end == 'x') {
        b.append(" error ").append(error);
      }
      if (end != 'd') {
        b.append(" where ").append(where);
      }
      b.append(" steps ").append(steps).append(" digits ").append(digits);
      b.append(" depth ").append(called).append("\ndone");
      for (int count : done) {
        b.append(' ').append(count);
      }
      b.append('\n');
      long sum = 7;
      for (String text : said) {
        b.append("said <").append(text).append(">\n");
        for (char sign : text.toCharArray()) {
          sum = sum * 31 + sign;
        }
        sum = sum * 31 + text.length();
      }
      sum = sum * 31 + steps;
      for (String text : queue) {
        b.append("queued <").append(text).append(">\n");
      }
      for (String text : commands) {
        b.append("command <").append(text).append(">\n");
      }
      for (String word : words) {
        String value = get(word);
        b.append(word).append(value != null ? " = <" : " - <");
        b.append(value != null ? value : full(word)).append(">\n");
      }
      return b.append("checksum ").append(sum).append('\n').toString();
    }

    // -- parts

    static List<Part> split(String s) {
      List<Part> list = new ArrayList<>();
      int i = 0;
      while (i < s.length()) {
        char c = s.charAt(i);
        int b = i;
        if (c == ' ') {
          i++;
        } else if (Character.isLetter(c)) {
          while (i < s.length() && (Character.isLetterOrDigit(s.charAt(i)) || s.charAt(i) == '.')) {
            i++;
          }
          list.add(new Part('w', s.substring(b, i), b, i));
        } else if (s.substring(i).matches("(?s)\\.?[0-9].*")) {
          java.util.regex.Matcher m = java.util.regex.Pattern
              .compile("[0-9]+\\.[0-9]*|\\.[0-9]+|[0-9]+").matcher(s);
          m.find(i);
          i = m.end();
          list.add(new Part('n', s.substring(b, i), b, i));
        } else if (c == '\'') {
          i = s.indexOf('\'', b + 1);
          if (i < 0) {
            return null;
          }
          i++;
          list.add(new Part('t', s.substring(b + 1, i - 1), b, i));
        } else {
          String two = s.substring(i, Math.min(s.length(), i + 2));
          i += List.of("**", "//", "==", "~=", "<=", ">=", "||").contains(two) ? 2 : 1;
          list.add(new Part('s', s.substring(b, i), b, i));
        }
      }
      return list;
    }

    static boolean isWord(List<Part> p, int i) {
      return i < p.size() && p.get(i).kind == 'w';
    }

    static boolean isName(List<Part> p, int i) {
      return isWord(p, i) && p.get(i).text.indexOf('.') < 0;
    }

    static boolean is(List<Part> p, int i, String word) {
      return isWord(p, i) && p.get(i).text.equals(word);
    }

    static boolean sign(List<Part> p, int i, String sign) {
      return i < p.size() && p.get(i).kind == 's' && p.get(i).text.equals(sign);
    }

    static boolean fine(List<Part> p) {
      try {
        new Reader(p, null).whole();
        return true;
      } catch (Trouble e) {
        return false;
      }
    }

    static final List<String> WORDS = List.of("say", "if", "else", "do", "end", "leave", "iterate",
        "call", "return", "exit", "procedure", "parse", "drop", "digits", "signal", "push", "queue",
        "pull", "interpret", "address");

    static String kind(List<Part> p) {
      if (p == null) {
        return "bad";
      }
      if (p.isEmpty()) {
        return "empty";
      }
      if (p.size() == 2 && isWord(p, 0) && sign(p, 1, ":")) {
        return "label";
      }
      if (isWord(p, 0) && sign(p, 1, "=")) {
        return fine(p.subList(2, p.size())) ? "assignment" : "bad";
      }
      String first = p.get(0).text;
      if (!isWord(p, 0) || !WORDS.contains(first)) {
        return fine(p) ? "command" : "bad";
      }
      List<Part> rest = p.subList(1, p.size());
      boolean good;
      switch (first) {
        case "say": case "if": case "digits": case "push": case "queue": case "interpret":
          good = fine(rest);
          break;
        case "else": case "end": case "leave": case "iterate": case "exit":
          good = rest.isEmpty();
          break;
        case "do":
          good = goodDo(rest);
          break;
        case "call":
          good = isName(rest, 0);
          if (good && rest.size() > 1) {
            for (List<Part> argument : commas(rest.subList(1, rest.size()))) {
              good = good && fine(argument);
            }
          }
          break;
        case "return":
          good = rest.isEmpty() || fine(rest);
          break;
        case "procedure":
          good = rest.isEmpty() || is(rest, 0, "expose") && rest.size() > 1;
          for (int i = 1; i < rest.size(); i++) {
            good = good && isWord(rest, i) && rest.get(i).text.matches("[a-z0-9]+\\.?");
          }
          break;
        case "parse":
          if (is(rest, 0, "arg")) {
            good = template(rest.subList(1, rest.size()));
          } else if (is(rest, 0, "var") && isWord(rest, 1)) {
            good = template(rest.subList(2, rest.size()));
          } else if (is(rest, 0, "value")) {
            int with = find(rest, 1, Set.of("with"));
            good = with < rest.size() && fine(rest.subList(1, with))
                && template(rest.subList(with + 1, rest.size()));
          } else {
            good = false;
          }
          break;
        case "drop":
          good = !rest.isEmpty();
          for (int i = 0; i < rest.size(); i++) {
            good = good && isWord(rest, i);
          }
          break;
        case "signal":
          good = rest.size() == 1 && isName(rest, 0)
              || rest.size() == 2 && (is(rest, 0, "on") || is(rest, 0, "off"))
              && (is(rest, 1, "novalue") || is(rest, 1, "syntax"));
          break;
        case "pull":
          good = rest.size() == 1 && isWord(rest, 0);
          break;
        default:
          good = rest.size() == 1 && isName(rest, 0);
          break;
      }
      return good ? first : "bad";
    }

    /** The first of the words outside of brackets, or the end. */
    static int find(List<Part> p, int from, Set<String> words) {
      int open = 0;
      for (int i = from; i < p.size(); i++) {
        open += sign(p, i, "(") ? 1 : sign(p, i, ")") ? -1 : 0;
        if (open == 0 && isWord(p, i) && words.contains(p.get(i).text)) {
          return i;
        }
      }
      return p.size();
    }

    static List<List<Part>> commas(List<Part> p) {
      List<List<Part>> lists = new ArrayList<>();
      int open = 0;
      int from = 0;
      for (int i = 0; i < p.size(); i++) {
        open += sign(p, i, "(") ? 1 : sign(p, i, ")") ? -1 : 0;
        if (open == 0 && sign(p, i, ",")) {
          lists.add(p.subList(from, i));
          from = i + 1;
        }
      }
      lists.add(p.subList(from, p.size()));
      return lists;
    }

    /** Name, from, to, by, while; what is not told is null, and "bad" gives null in all. */
    static Map<String, List<Part>> pieces(List<Part> p) {
      Map<String, List<Part>> map = new HashMap<>();
      boolean named = isWord(p, 0) && sign(p, 1, "=");
      Set<String> enders = named ? Set.of("to", "by", "while") : Set.of("while");
      int at = named ? 2 : 0;
      String what = "first";
      List<String> order = List.of("first", "to", "by", "while");
      while (true) {
        int next = find(p, at, enders);
        map.put(what, p.subList(at, next));
        if (next == p.size()) {
          break;
        }
        String follows = p.get(next).text;
        if (order.indexOf(follows) <= order.indexOf(what)) {
          return null;
        }
        what = follows;
        at = next + 1;
      }
      if (named) {
        map.put("name", p.subList(0, 1));
      }
      return map;
    }

    static boolean goodDo(List<Part> p) {
      Map<String, List<Part>> map = pieces(p);
      if (map == null) {
        return false;
      }
      boolean good = true;
      for (Map.Entry<String, List<Part>> e : map.entrySet()) {
        boolean may = e.getKey().equals("first") && e.getValue().isEmpty() && !map.containsKey("name");
        good = good && (e.getKey().equals("name") || may || fine(e.getValue()));
      }
      return good;
    }

    static boolean template(List<Part> p) {
      for (int i = 0; i < p.size(); i++) {
        Part part = p.get(i);
        if (part.kind == 's') {
          if ((part.text.equals("+") || part.text.equals("-")) && i + 1 < p.size()
              && p.get(i + 1).kind == 'n') {
            i++;
          } else if (!part.text.equals(".") && !part.text.equals(",")) {
            return false;
          }
        }
      }
      return true;
    }

    // -- variables

    String full(String word) {
      int dot = word.indexOf('.');
      if (dot < 0 || dot == word.length() - 1) {
        return word;
      }
      return word.substring(0, dot + 1) + tail(word);
    }

    String tail(String word) {
      StringBuilder b = new StringBuilder();
      String[] bits = word.substring(word.indexOf('.') + 1).split("\\.", -1);
      for (int i = 0; i < bits.length; i++) {
        b.append(i > 0 ? "." : "");
        String value = !bits[i].isEmpty() && Character.isLetter(bits[i].charAt(0))
            ? pool.of(bits[i]).names.get(bits[i]) : null;
        b.append(value != null ? value : bits[i]);
      }
      return b.toString();
    }

    static boolean isElement(String word) {
      int dot = word.indexOf('.');
      return dot >= 0 && dot < word.length() - 1;
    }

    /** The value, or null if it was not set. */
    String get(String word) {
      if (isElement(word)) {
        String stem = word.substring(0, word.indexOf('.') + 1);
        Pool at = pool.of(stem);
        Map<String, String> map = at.elements.get(stem);
        String value = map == null ? null : map.get(tail(word));
        return value != null ? value : at.stems.get(stem);
      }
      return word.endsWith(".") ? pool.of(word).stems.get(word) : pool.of(word).names.get(word);
    }

    /** The value, or the name, which is not too long. */
    String value(String word) {
      check(word);
      String value = get(word);
      value = value != null ? value : full(word);
      if (value.length() > 200) {
        throw new Trouble(45);
      }
      return value;
    }

    void check(String word) {
      if (isElement(word) && tail(word).length() > 200) {
        throw new Trouble(45);
      }
    }

    void set(String word, String value) {
      check(word);
      if (isElement(word)) {
        String stem = word.substring(0, word.indexOf('.') + 1);
        pool.of(stem).elements.computeIfAbsent(stem, k -> new HashMap<>()).put(tail(word), value);
      } else if (word.endsWith(".")) {
        pool.of(word).stems.put(word, value);
        pool.of(word).elements.remove(word);
      } else {
        pool.of(word).names.put(word, value);
      }
    }

    void drop(String word) {
      check(word);
      if (isElement(word)) {
        String stem = word.substring(0, word.indexOf('.') + 1);
        Map<String, String> map = pool.of(stem).elements.get(stem);
        if (map != null) {
          map.remove(tail(word));
        }
      } else if (word.endsWith(".")) {
        pool.of(word).stems.remove(word);
        pool.of(word).elements.remove(word);
      } else {
        pool.of(word).names.remove(word);
      }
    }

    // -- numbers

    static BigDecimal exact(String text) {
      String t = text.replaceAll("^ +| +$", "");
      if (!t.matches("[+-]?([0-9]+\\.?[0-9]*|\\.[0-9]+)(e[+-]?[0-9]{1,2})?")) {
        return null;
      }
      return new BigDecimal(t.replaceFirst("\\.(e|$)", "$1"));
    }

    BigDecimal number(String text) {
      BigDecimal d = exact(text);
      return d == null ? null : round(d);
    }

    BigDecimal number(String text, int otherwise) {
      BigDecimal d = number(text);
      if (d == null) {
        throw new Trouble(otherwise);
      }
      return d;
    }

    BigDecimal round(BigDecimal d) {
      return d.round(new java.math.MathContext(digits, RoundingMode.HALF_UP));
    }

    String write(BigDecimal exact) {
      BigDecimal d = round(exact);
      if (d.signum() == 0) {
        return "0";
      }
      int ahead = d.precision() - d.scale();
      if (ahead <= digits && d.scale() <= 2 * digits) {
        return d.toPlainString();
      }
      String signs = d.unscaledValue().abs().toString();
      int exponent = ahead - 1;
      if (Math.abs(exponent) > 99) {
        throw new Trouble(42);
      }
      return (d.signum() < 0 ? "-" : "") + signs.charAt(0)
          + (signs.length() > 1 ? "." + signs.substring(1) : "")
          + "e" + (exponent < 0 ? "-" : "+") + Math.abs(exponent);
    }

    static boolean isWhole(BigDecimal d) {
      return d.signum() == 0 || d.stripTrailingZeros().scale() <= 0;
    }

    long whole(String text, long least, long most, int otherwise) {
      BigDecimal d = number(text);
      if (d == null || !isWhole(d) || d.compareTo(BigDecimal.valueOf(least)) < 0
          || d.compareTo(BigDecimal.valueOf(most)) > 0) {
        throw new Trouble(otherwise);
      }
      return d.longValue();
    }

    long wholeCapped(String text, long least, int otherwise) {
      BigDecimal d = number(text);
      if (d == null || !isWhole(d) || d.compareTo(BigDecimal.valueOf(least)) < 0) {
        throw new Trouble(otherwise);
      }
      return d.min(BigDecimal.valueOf(1000000)).longValue();
    }

    /** The quotient of whole numbers, rounded, as a decimal that has all its digits. */
    BigDecimal quotient(BigDecimal a, BigDecimal b) {
      if (a.signum() == 0) {
        return BigDecimal.ZERO;
      }
      // as many digits as are set, and more: rounding looks at the first digit that is left out
      BigDecimal q = a.divide(b, 2400, RoundingMode.DOWN);
      q = round(q);
      while (q.scale() > 0 && q.unscaledValue().mod(BigInteger.TEN).signum() == 0) {
        q = q.setScale(q.scale() - 1);
      }
      return q;
    }

    String arithmetic(String operator, String left, String right) {
      BigDecimal a = number(left);
      BigDecimal b = number(right);
      if (a == null || b == null) {
        throw new Trouble(41);
      }
      switch (operator) {
        case "+": return write(a.add(b));
        case "-": return write(a.subtract(b));
        case "*": return write(a.multiply(b));
        case "**": return power(a, b);
        default: break;
      }
      if (b.signum() == 0) {
        throw new Trouble(42);
      }
      if (operator.equals("/")) {
        return write(quotient(a, b));
      }
      int scale = Math.max(a.scale(), b.scale());
      BigInteger[] parts = a.setScale(scale).unscaledValue()
          .divideAndRemainder(b.setScale(scale).unscaledValue());
      if (parts[0].abs().compareTo(BigInteger.TEN.pow(digits)) >= 0) {
        throw new Trouble(26);
      }
      return write(operator.equals("%") ? new BigDecimal(parts[0]) : new BigDecimal(parts[1], scale));
    }

    String power(BigDecimal a, BigDecimal b) {
      if (!isWhole(b) || b.abs().compareTo(BigDecimal.valueOf(99)) > 0) {
        throw new Trouble(26);
      }
      int n = b.intValue();
      if (n >= 0) {
        return write(a.pow(n));
      }
      if (a.signum() == 0) {
        throw new Trouble(42);
      }
      BigDecimal d = a.pow(-n);
      // one over d, as whole numbers with a far power of ten
      int far = d.precision() + 60;
      BigDecimal q = new BigDecimal(BigInteger.TEN.pow(far).divide(d.unscaledValue()), far - d.scale());
      q = round(q);
      while (q.scale() > 0 && q.unscaledValue().mod(BigInteger.TEN).signum() == 0) {
        q = q.setScale(q.scale() - 1);
      }
      if (q.scale() < 0 && q.precision() < digits) {
        q = q.setScale(Math.max(0, Math.min(0, q.scale())));
        q = round(q);
      }
      return write(q);
    }

    boolean compares(String operator, String left, String right) {
      if (operator.equals("==")) {
        return left.equals(right);
      }
      BigDecimal a = number(left);
      BigDecimal b = number(right);
      int order;
      if (a != null && b != null) {
        order = a.subtract(b).signum();
      } else {
        StringBuilder l = new StringBuilder(left.replaceAll("^ +| +$", ""));
        StringBuilder r = new StringBuilder(right.replaceAll("^ +| +$", ""));
        while (l.length() < r.length()) {
          l.append(' ');
        }
        while (r.length() < l.length()) {
          r.append(' ');
        }
        order = l.toString().compareTo(r.toString());
      }
      switch (operator) {
        case "=": return order == 0;
        case "~=": return order != 0;
        case "<": return order < 0;
        case ">": return order > 0;
        case "<=": return order <= 0;
        default: return order >= 0;
      }
    }

    static boolean truth(String text) {
      if (!text.equals("0") && !text.equals("1")) {
        throw new Trouble(34);
      }
      return text.equals("1");
    }

    String reckon(String text, int digitsSet) {
      digits = digitsSet;
      List<Part> list = split(text);
      if (list == null || !fine(list)) {
        throw new Trouble(20);
      }
      frames.add(new Frame());
      return new Reader(list, this).whole();
    }

    // -- functions

    String function(String name, List<String> a) {
      int needed;
      switch (name) {
        case "length": case "words": case "abs": needed = 1; break;
        case "word": case "copies": case "pos": case "max": case "min": needed = 2; break;
        case "substr": needed = 3; break;
        default: throw new Trouble(43);
      }
      if (a.size() != needed) {
        throw new Trouble(40);
      }
      String t = a.get(0);
      switch (name) {
        case "length": return "" + t.length();
        case "words": return "" + words(t).size();
        case "abs": return write(number(t, 40).abs());
        case "word": {
          long n = wholeCapped(a.get(1), 1, 40);
          return n > words(t).size() ? "" : words(t).get((int) n - 1);
        }
        case "copies": {
          long n = wholeCapped(a.get(1), 0, 40);
          if (n * t.length() > 200) {
            throw new Trouble(45);
          }
          return t.isEmpty() ? "" : t.repeat((int) n);
        }
        case "pos": return "" + (a.get(1).indexOf(t) + 1);
        case "substr": {
          long n = wholeCapped(a.get(1), 1, 40);
          long m = wholeCapped(a.get(2), 0, 40);
          if (m > 200) {
            throw new Trouble(45);
          }
          StringBuilder b = new StringBuilder();
          for (long i = n - 1; i < n - 1 + m; i++) {
            b.append(i < t.length() ? t.charAt((int) i) : ' ');
          }
          return b.toString();
        }
        default: {
          BigDecimal l = number(t, 40);
          BigDecimal r = number(a.get(1), 40);
          boolean second = name.equals("max") ? l.compareTo(r) < 0 : l.compareTo(r) > 0;
          return write(second ? r : l);
        }
      }
    }

    static List<String> words(String text) {
      List<String> list = new ArrayList<>();
      for (String word : text.split(" ")) {
        if (!word.isEmpty()) {
          list.add(word);
        }
      }
      return list;
    }

    // -- running

    final List<Frame> frames = new ArrayList<>();

    Frame frame() {
      return frames.get(frames.size() - 1);
    }

    void run() {
      Frame main = new Frame();
      main.arguments = arguments;
      frames.add(main);
      try {
        flow(0);
        end = 'd';
      } catch (Return e) {
        end = 'd';
      } catch (Trouble e) {
        end = e.number == -1 ? 'l' : 'x';
        error = e.number;
        where = line;
      }
    }

    int label(String name) {
      for (int i = 0; i < lines.size(); i++) {
        if (kinds.get(i).equals("label") && parts.get(i).get(0).text.equals(name)) {
          return i;
        }
      }
      return -1;
    }

    void step(int of) {
      if (steps >= limit) {
        over = true;
        throw new Trouble(-1);
      }
      steps++;
      if (of >= 0) {
        done[of]++;
      }
    }

    /** Does lines from one on in the innermost call, until that returns. */
    void flow(int from) {
      int mine = frames.size();
      int next = from;
      while (next < lines.size()) {
        String kind = kinds.get(next);
        if (kind.equals("empty") || kind.equals("label")) {
          next++;
          continue;
        }
        try {
          next = lineDone(next, kind);
        } catch (Leap e) {
          if (e.called + 1 != mine) {
            throw e;
          }
          next = e.label;
          frame().blocks.clear();
        } catch (Trouble e) {
          next = caught(e, mine);
        } catch (Novalue e) {
          next = caught(e, mine);
        }
      }
      ended = true;
      throw new Return(null);
    }

    int caught(RuntimeException e, int mine) {
      boolean novalue = e instanceof Novalue;
      if (over || !novalue && (told[0] == null || ((Trouble) e).number < 0)) {
        over = true;
        throw e;
      }
      int at = told[novalue ? 1 : 0];
      told[novalue ? 1 : 0] = null;
      int label = label(novalue ? "novalue" : "syntax");
      if (label < 0) {
        over = true;
        throw new Trouble(16);
      }
      while (called > at) {
        popCall();
      }
      frame().blocks.clear();
      underWay -= frame().interprets;
      frame().interprets = 0;
      if (frames.size() != mine) {
        throw new Leap(called, label);
      }
      return label;
    }

    void popCall() {
      underWay -= 1 + frame().interprets;
      frames.remove(frames.size() - 1);
      called--;
      pool = pools.remove(pools.size() - 1);
      for (int i = 0; i < 2; i++) {
        if (told[i] != null) {
          told[i] = Math.min(told[i], called);
        }
      }
    }

    final List<Pool> pools = new ArrayList<>();

    int lineDone(int at, String kind) {
      line = at;
      step(at);
      boolean fresh = frame().fresh;
      frame().fresh = false;
      List<Part> p = parts.get(at);
      List<Block> blocks = frame().blocks;
      Block top = blocks.isEmpty() ? null : blocks.get(blocks.size() - 1);
      switch (kind) {
        case "bad":
          throw new Trouble(20);
        case "if":
        case "do":
          return begin(at, kind, p.subList(1, p.size()));
        case "else":
          if (top == null || !top.kind.equals("if")) {
            throw new Trouble(10);
          }
          blocks.remove(blocks.size() - 1);
          return top.end + 1;
        case "end":
          if (top == null) {
            throw new Trouble(10);
          }
          if (top.kind.equals("if") || top.kind.equals("plain")) {
            blocks.remove(blocks.size() - 1);
            return at + 1;
          }
          return again(top);
        case "leave":
        case "iterate": {
          int i = blocks.size() - 1;
          while (i >= 0 && (blocks.get(i).kind.equals("if") || blocks.get(i).kind.equals("plain"))) {
            i--;
          }
          if (i < 0) {
            throw new Trouble(28);
          }
          while (blocks.size() > i + 1) {
            blocks.remove(blocks.size() - 1);
          }
          Block loop = blocks.get(i);
          if (kind.equals("leave")) {
            blocks.remove(i);
            return loop.end + 1;
          }
          return again(loop);
        }
        case "procedure": {
          if (!fresh) {
            throw new Trouble(17);
          }
          Pool made = new Pool(pool);
          for (int i = 2; i < p.size(); i++) {
            made.exposed.add(p.get(i).text);
          }
          pool = made;
          return at + 1;
        }
        case "signal":
          if (p.size() == 2) {
            return signal(p.get(1).text);
          }
          break;
        default:
          break;
      }
      simple(kind, p);
      return at + 1;
    }

    int signal(String name) {
      int label = label(name);
      if (label < 0) {
        throw new Trouble(16);
      }
      frame().blocks.clear();
      underWay -= frame().interprets;
      if (frame().interprets > 0) {
        frame().interprets = 0;
        throw new Leap(called, label);
      }
      return label;
    }

    int begin(int at, String kind, List<Part> p) {
      Block block = new Block();
      block.begin = at;
      int open = 1;
      int i = at;
      while (open > 0) {
        i++;
        if (i >= lines.size()) {
          throw new Trouble(10);
        }
        switch (kinds.get(i)) {
          case "if": case "do": open++; break;
          case "end": open--; break;
          case "else": block.other = open == 1 && block.other < 0 ? i : block.other; break;
          default: break;
        }
      }
      block.end = i;
      if (kind.equals("if")) {
        block.kind = "if";
        if (truth(value(p))) {
          frame().blocks.add(block);
          return at + 1;
        }
        if (block.other < 0) {
          return block.end + 1;
        }
        frame().blocks.add(block);
        return block.other + 1;
      }
      Map<String, List<Part>> map = pieces(p);
      block.condition = map.get("while");
      boolean goes = true;
      if (map.containsKey("name")) {
        block.kind = "named";
        block.name = map.get("name").get(0).text;
        String first = write(number(value(map.get("first")), 26));
        block.to = map.containsKey("to") ? exact(write(number(value(map.get("to")), 26))) : null;
        block.by = map.containsKey("by") ? exact(write(number(value(map.get("by")), 26)))
            : BigDecimal.ONE;
        set(block.name, first);
        goes = within(block, number(first));
      } else if (!map.get("first").isEmpty()) {
        block.kind = "count";
        block.left = wholeCapped(value(map.get("first")), 0, 26);
        goes = block.left > 0;
      } else {
        block.kind = block.condition == null ? "plain" : "endless";
      }
      if (!goes || block.condition != null && !truth(value(block.condition))) {
        return block.end + 1;
      }
      frame().blocks.add(block);
      return at + 1;
    }

    boolean within(Block block, BigDecimal now) {
      if (block.to == null) {
        return true;
      }
      int order = now.compareTo(round(block.to));
      return round(block.by).signum() < 0 ? order >= 0 : order <= 0;
    }

    int again(Block block) {
      line = block.begin;
      boolean goes = true;
      if (block.kind.equals("count")) {
        block.left--;
        goes = block.left > 0;
      } else if (block.kind.equals("named")) {
        BigDecimal sum = number(value(block.name), 26).add(round(block.by));
        String text = write(sum);
        set(block.name, text);
        goes = within(block, number(text));
      }
      if (!goes || block.condition != null && !truth(value(block.condition))) {
        frame().blocks.remove(frame().blocks.size() - 1);
        return block.end + 1;
      }
      step(block.begin);
      return block.begin + 1;
    }

    String value(List<Part> p) {
      return new Reader(p, this).whole();
    }

    void simple(String kind, List<Part> p) {
      List<Part> rest = p.subList(p.isEmpty() ? 0 : 1, p.size());
      switch (kind) {
        case "assignment": {
          String value = value(p.subList(2, p.size()));
          set(p.get(0).text, value);
          break;
        }
        case "command": {
          String text = value(p);
          if (commands.size() < 30) {
            commands.add(environment + " " + text);
          }
          set("rc", "" + words(text).size());
          break;
        }
        case "say":
          said.add(value(rest));
          break;
        case "digits":
          digits = (int) whole(value(rest), 1, 20, 26);
          break;
        case "push": {
          String text = value(rest);
          if (queue.size() < 20) {
            queue.add(0, text);
          }
          break;
        }
        case "queue": {
          String text = value(rest);
          if (queue.size() < 20) {
            queue.add(text);
          }
          break;
        }
        case "pull":
          set(rest.get(0).text, queue.isEmpty() ? "" : queue.remove(0));
          break;
        case "address":
          environment = rest.get(0).text;
          break;
        case "drop":
          for (Part part : rest) {
            drop(part.text);
          }
          break;
        case "exit":
          ended = true;
          throw new Return(null);
        case "return":
          throw new Return(rest.isEmpty() ? null : value(rest));
        case "call": {
          List<String> list = new ArrayList<>();
          if (rest.size() > 1) {
            for (List<Part> argument : commas(rest.subList(1, rest.size()))) {
              list.add(value(argument));
            }
          }
          String value = call(rest.get(0).text, list);
          if (value == null) {
            drop("result");
          } else {
            set("result", value);
          }
          break;
        }
        case "signal":
          told[rest.get(1).text.equals("novalue") ? 1 : 0] =
              rest.get(0).text.equals("on") ? (Integer) called : null;
          break;
        case "interpret":
          interpret(value(rest));
          break;
        default:
          parse(rest);
          break;
      }
    }

    void interpret(String text) {
      if (underWay >= 20) {
        throw new Trouble(45);
      }
      List<Part> p = split(text);
      String kind = kind(p);
      if (kind.equals("empty")) {
        return;
      }
      if (kind.equals("label")) {
        throw new Trouble(20);
      }
      step(-1);
      if (Set.of("bad", "if", "do", "else", "end", "procedure", "leave", "iterate").contains(kind)) {
        throw new Trouble(20);
      }
      underWay++;
      frame().interprets++;
      Frame mine = frame();
      if (kind.equals("signal") && p.size() == 2) {
        signal(p.get(1).text);
      }
      simple(kind, p);
      if (frame() != mine) {
        throw new IllegalStateException();
      }
      underWay--;
      frame().interprets--;
    }

    String call(String name, List<String> list) {
      int label = label(name);
      if (label < 0) {
        return function(name, list);
      }
      if (underWay >= 20) {
        throw new Trouble(45);
      }
      Frame made = new Frame();
      made.arguments = list;
      made.fresh = true;
      int was = line;
      frames.add(made);
      called++;
      underWay++;
      pools.add(pool);
      String value;
      try {
        flow(label);
        return null;
      } catch (Return e) {
        if (ended) {
          throw e;
        }
        value = e.value;
      }
      popCall();
      line = was;
      return value;
    }

    void parse(List<Part> p) {
      List<String> texts = new ArrayList<>();
      List<Part> template;
      if (is(p, 0, "arg")) {
        texts.addAll(frame().arguments);
        template = p.subList(1, p.size());
      } else if (is(p, 0, "var")) {
        texts.add(value(p.get(1).text));
        template = p.subList(2, p.size());
      } else {
        int with = find(p, 1, Set.of("with"));
        texts.add(value(p.subList(1, with)));
        template = p.subList(with + 1, p.size());
      }
      int index = 0;
      for (List<Part> one : commas(template)) {
        parseOne(index < texts.size() ? texts.get(index) : "", one);
        index++;
      }
    }

    void parseOne(String text, List<Part> p) {
      List<String> names = new ArrayList<>();
      int from = 0;
      int last = 0;
      for (int i = 0; i < p.size(); i++) {
        Part part = p.get(i);
        if (part.kind == 'w' || sign(p, i, ".")) {
          names.add(part.text);
          continue;
        }
        if (part.kind == 't') {
          int at = text.indexOf(part.text, from);
          share(at > from ? text.substring(from, at) : text.substring(from), names);
          last = at < 0 ? text.length() : at;
          from = at < 0 ? text.length() : at + part.text.length();
        } else {
          int way = part.kind == 'n' ? 0 : part.text.equals("+") ? 1 : -1;
          i += way == 0 ? 0 : 1;
          BigDecimal d = new BigDecimal(p.get(i).text.replaceFirst("\\.$", ""));
          if (!isWhole(d)) {
            throw new Trouble(26);
          }
          int n = d.min(BigDecimal.valueOf(5000)).intValue();
          int place = way == 0 ? n - 1 : last + way * n;
          place = Math.max(0, Math.min(place, text.length()));
          share(place > from ? text.substring(from, place) : text.substring(from), names);
          last = place;
          from = place;
        }
        names.clear();
      }
      share(text.substring(from), names);
    }

    void share(String text, List<String> names) {
      String left = text;
      for (int i = 0; i < names.size(); i++) {
        String value = left;
        if (i < names.size() - 1) {
          left = left.replaceFirst("^ +", "");
          int blank = left.indexOf(' ');
          value = blank < 0 ? left : left.substring(0, blank);
          left = blank < 0 ? "" : left.substring(blank + 1);
        }
        if (!names.get(i).equals(".")) {
          set(names.get(i), value);
        }
      }
    }
  }

  /** Reads an expression by recursion; works it out if there is a machine. */
  private static final class Reader {
    final List<Part> p;
    final Oracle oracle;
    int at;

    Reader(List<Part> p, Oracle oracle) {
      this.p = p;
      this.oracle = oracle;
    }

    String whole() {
      String value = level(0);
      if (at < p.size()) {
        throw new Trouble(20);
      }
      return value;
    }

    static final List<List<String>> LEVELS = List.of(List.of("|"), List.of("&"),
        List.of("=", "~=", "<", ">", "<=", ">=", "=="), List.of("||"), List.of("+", "-"),
        List.of("*", "/", "%", "//"), List.of("**"));

    boolean begins() {
      return at < p.size() && (p.get(at).kind != 's' || Oracle.sign(p, at, "(")
          || Oracle.sign(p, at, "~"));
    }

    String level(int level) {
      if (level == LEVELS.size()) {
        return prefix();
      }
      String left = level(level + 1);
      while (at < p.size()) {
        if (p.get(at).kind == 's' && LEVELS.get(level).contains(p.get(at).text)) {
          String operator = p.get(at).text;
          at++;
          String right = level(level + 1);
          left = oracle == null ? "" : apply(operator, left, right);
        } else if (level == 3 && begins()) {
          String blank = p.get(at).begin > p.get(at - 1).end ? " " : "";
          String right = level(level + 1);
          left = oracle == null ? "" : apply("||", left + blank, right);
        } else {
          break;
        }
      }
      return left;
    }

    String apply(String operator, String left, String right) {
      switch (operator) {
        case "|": case "&": {
          boolean l = Oracle.truth(left);
          boolean r = Oracle.truth(right);
          return (operator.equals("|") ? l | r : l & r) ? "1" : "0";
        }
        case "||":
          if (left.length() + right.length() > 200) {
            throw new Trouble(45);
          }
          return left + right;
        case "=": case "~=": case "<": case ">": case "<=": case ">=": case "==":
          return oracle.compares(operator, left, right) ? "1" : "0";
        default:
          return oracle.arithmetic(operator, left, right);
      }
    }

    String prefix() {
      if (at < p.size() && p.get(at).kind == 's' && "+-~".contains(p.get(at).text)) {
        String operator = p.get(at).text;
        at++;
        String value = prefix();
        if (oracle == null) {
          return "";
        }
        if (operator.equals("~")) {
          return Oracle.truth(value) ? "0" : "1";
        }
        BigDecimal d = oracle.number(value, 41);
        return oracle.write(operator.equals("-") ? d.negate() : d);
      }
      return operand();
    }

    String operand() {
      if (at >= p.size()) {
        throw new Trouble(20);
      }
      Part part = p.get(at);
      at++;
      if (part.kind == 'n' || part.kind == 't') {
        return part.text;
      }
      if (part.kind == 's') {
        if (!part.text.equals("(")) {
          throw new Trouble(20);
        }
        String value = level(0);
        close();
        return value;
      }
      if (Oracle.sign(p, at, "(") && p.get(at).begin == part.end) {
        at++;
        List<String> list = new ArrayList<>();
        if (Oracle.sign(p, at, ")")) {
          at++;
        } else {
          list.add(level(0));
          while (Oracle.sign(p, at, ",")) {
            at++;
            list.add(level(0));
          }
          close();
        }
        if (oracle == null) {
          return "";
        }
        String value = oracle.call(part.text, list);
        if (value == null) {
          throw new Trouble(44);
        }
        return value;
      }
      if (oracle == null) {
        return "";
      }
      oracle.check(part.text);
      if (oracle.get(part.text) == null && !part.text.endsWith(".") && oracle.told[1] != null) {
        throw new Novalue();
      }
      if (oracle.get(part.text) == null && part.text.endsWith(".") && Oracle.isElement(part.text)
          && oracle.told[1] != null) {
        throw new Novalue();
      }
      return oracle.value(part.text);
    }

    void close() {
      if (!Oracle.sign(p, at, ")")) {
        throw new Trouble(20);
      }
      at++;
    }
  }
}
