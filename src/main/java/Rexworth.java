import java.util.NoSuchElementException;

/** A machine that runs programs of a small language of words and decimals. */
public final class Rexworth {
  private static final int MOST_SIGNS = 60;
  private static final int MOST_LINES = 40;
  private static final int MOST_ARGUMENTS = 4;
  private static final int MOST_STEPS = 2000;
  private static final int MOST_DIGITS = 20;
  private static final int FIRST_DIGITS = 9;
  private static final int MOST_TEXT = 200;
  private static final int MOST_UNDER_WAY = 20;
  private static final int MOST_WAITING = 20;
  private static final int MOST_COMMANDS = 30;
  private static final String SIGNS = " .,=+-*/%&|~<>()':";

  private final char[] typed;
  private int typedCount;
  private final Texts lines;
  private final Texts arguments;
  private final Texts ranLines;
  private final Texts ranArguments;
  private int ranSteps;
  private final Machine machine;
  private final Machine checker;

  public Rexworth() {
    typed = new char[MOST_SIGNS];
    lines = new Texts(MOST_LINES, 256);
    arguments = new Texts(MOST_ARGUMENTS, 64);
    ranLines = new Texts(MOST_LINES, 256);
    ranArguments = new Texts(MOST_ARGUMENTS, 64);
    machine = new Machine();
    checker = new Machine();
  }

  public int type(char sign) throws IllegalArgumentException, IllegalStateException {
    if (!isLetter(sign) && !isDigit(sign) && SIGNS.indexOf(sign) < 0) {
      throw new IllegalArgumentException("there is no such sign");
    }
    if (typedCount >= MOST_SIGNS) {
      throw new IllegalStateException("no more signs");
    }
    typed[typedCount] = sign;
    typedCount++;
    return typedCount;
  }

  public int wipe() {
    int were = typedCount;
    typedCount = 0;
    return were;
  }

  public int line() throws IllegalStateException {
    if (lines.count >= MOST_LINES) {
      throw new IllegalStateException("no more lines");
    }
    lines.add(typed, 0, typedCount);
    typedCount = 0;
    return lines.count - 1;
  }

  public int clear() {
    int were = lines.count;
    lines.empty();
    return were;
  }

  public char at(int line, int place) throws IndexOutOfBoundsException, NoSuchElementException {
    if (line < 0 || line >= lines.count) {
      throw new IndexOutOfBoundsException("there is no such line");
    }
    if (!lines.has(line, place)) {
      throw new NoSuchElementException("there is no such place");
    }
    return lines.sign(line, place);
  }

  public int argument() throws IllegalStateException {
    if (arguments.count >= MOST_ARGUMENTS) {
      throw new IllegalStateException("no more arguments");
    }
    arguments.add(typed, 0, typedCount);
    typedCount = 0;
    return arguments.count;
  }

  public int bare() {
    int were = arguments.count;
    arguments.empty();
    return were;
  }

  public char run(int steps) throws IllegalArgumentException, UnsupportedOperationException {
    if (steps < 1 || steps > MOST_STEPS) {
      throw new IllegalArgumentException("steps are out of range");
    }
    if (lines.count == 0) {
      throw new UnsupportedOperationException("there are no lines");
    }
    ranLines.copy(lines);
    ranArguments.copy(arguments);
    ranSteps = steps;
    machine.prepare(ranLines, ranArguments, steps);
    machine.go();
    return machine.outcome;
  }

  public char end() throws IllegalStateException {
    if (ranSteps == 0) {
      throw new IllegalStateException("nothing was run");
    }
    return machine.outcome;
  }

  public int error() throws IllegalStateException, NoSuchElementException {
    if (ranSteps == 0) {
      throw new IllegalStateException("nothing was run");
    }
    if (machine.outcome != Machine.FAILED) {
      throw new NoSuchElementException("there was no error");
    }
    return machine.failure;
  }

  public int where() throws IllegalStateException, NoSuchElementException {
    if (ranSteps == 0) {
      throw new IllegalStateException("nothing was run");
    }
    if (machine.outcome == Machine.ENDED) {
      throw new NoSuchElementException("it has ended");
    }
    return machine.now;
  }

  public int steps() throws IllegalStateException {
    if (ranSteps == 0) {
      throw new IllegalStateException("nothing was run");
    }
    return machine.made;
  }

  public int done(int line) throws IllegalStateException, IndexOutOfBoundsException {
    if (ranSteps == 0) {
      throw new IllegalStateException("nothing was run");
    }
    if (line < 0 || line >= ranLines.count) {
      throw new IndexOutOfBoundsException("there was no such line");
    }
    return machine.times[line];
  }

  public int said() throws IllegalStateException {
    if (ranSteps == 0) {
      throw new IllegalStateException("nothing was run");
    }
    return machine.spoken.count;
  }

  public int saidLength(int index) throws IllegalStateException, NoSuchElementException {
    if (ranSteps == 0) {
      throw new IllegalStateException("nothing was run");
    }
    if (index < 0 || index >= machine.spoken.count) {
      throw new NoSuchElementException("there is no such line");
    }
    return machine.spoken.sizes[index];
  }

  public char saidSign(int index, int place) throws IllegalStateException, NoSuchElementException {
    if (ranSteps == 0) {
      throw new IllegalStateException("nothing was run");
    }
    if (!machine.spoken.has(index, place)) {
      throw new NoSuchElementException("there is no such sign");
    }
    return machine.spoken.sign(index, place);
  }

  public boolean isSet() throws IllegalStateException, UnsupportedOperationException {
    if (ranSteps == 0) {
      throw new IllegalStateException("nothing was run");
    }
    if (!isWordTyped()) {
      throw new UnsupportedOperationException("it is no word");
    }
    return askTyped();
  }

  public int valueLength() throws IllegalStateException, UnsupportedOperationException {
    if (ranSteps == 0) {
      throw new IllegalStateException("nothing was run");
    }
    if (!isWordTyped()) {
      throw new UnsupportedOperationException("it is no word");
    }
    askTyped();
    return machine.variables.foundSize;
  }

  public char valueSign(int place)
      throws IllegalStateException, UnsupportedOperationException, NoSuchElementException {
    if (ranSteps == 0) {
      throw new IllegalStateException("nothing was run");
    }
    if (!isWordTyped()) {
      throw new UnsupportedOperationException("it is no word");
    }
    askTyped();
    if (place < 0 || place >= machine.variables.foundSize) {
      throw new NoSuchElementException("there is no such place");
    }
    return machine.variables.foundSign(place);
  }

  public int queued() throws IllegalStateException {
    if (ranSteps == 0) {
      throw new IllegalStateException("nothing was run");
    }
    return machine.waiting.count;
  }

  public char queuedSign(int index, int place)
      throws IllegalStateException, NoSuchElementException {
    if (ranSteps == 0) {
      throw new IllegalStateException("nothing was run");
    }
    if (!machine.waiting.has(index, place)) {
      throw new NoSuchElementException("there is no such sign");
    }
    return machine.waiting.sign(index, place);
  }

  public int commands() throws IllegalStateException {
    if (ranSteps == 0) {
      throw new IllegalStateException("nothing was run");
    }
    return machine.kept.count;
  }

  public char commandSign(int index, int place)
      throws IllegalStateException, NoSuchElementException {
    if (ranSteps == 0) {
      throw new IllegalStateException("nothing was run");
    }
    if (!machine.kept.has(index, place)) {
      throw new NoSuchElementException("there is no such sign");
    }
    return machine.kept.sign(index, place);
  }

  public int digits() throws IllegalStateException {
    if (ranSteps == 0) {
      throw new IllegalStateException("nothing was run");
    }
    return machine.reckoner.precision;
  }

  public int depth() throws IllegalStateException {
    if (ranSteps == 0) {
      throw new IllegalStateException("nothing was run");
    }
    return machine.calls.called;
  }

  public int reckon(int digits) throws IllegalArgumentException {
    if (digits < 1 || digits > MOST_DIGITS) {
      throw new IllegalArgumentException("digits are out of range");
    }
    checker.prepareExpression(typed, typedCount, digits);
    checker.go();
    return checker.outcome == Machine.FAILED ? -checker.failure : checker.values.sizeOf(0);
  }

  public char reckoned(int digits, int place)
      throws IllegalArgumentException, NoSuchElementException {
    if (digits < 1 || digits > MOST_DIGITS) {
      throw new IllegalArgumentException("digits are out of range");
    }
    checker.prepareExpression(typed, typedCount, digits);
    checker.go();
    if (checker.outcome == Machine.FAILED || place < 0 || place >= checker.values.sizeOf(0)) {
      throw new NoSuchElementException("there is no such sign");
    }
    return checker.values.sign(0, place);
  }

  public long checksum() {
    if (ranSteps == 0) {
      return 7;
    }
    return 31 * machine.spoken.sum(7) + machine.made;
  }

  public float doneShare() throws IllegalStateException {
    if (ranSteps == 0 || ranLines.count == 0) {
      throw new IllegalStateException("nothing was run");
    }
    int count = 0;
    for (int i = 0; i < ranLines.count; i++) {
      if (machine.times[i] > 0) {
        count++;
      }
    }
    return (float) count / (float) ranLines.count;
  }

  public double meanSaid() throws IllegalStateException, ArithmeticException {
    if (ranSteps == 0) {
      throw new IllegalStateException("nothing was run");
    }
    int count = machine.spoken.count;
    if (count == 0) {
      throw new ArithmeticException("nothing was said");
    }
    int sum = 0;
    for (int i = 0; i < count; i++) {
      sum += machine.spoken.sizes[i];
    }
    return (double) sum / (double) count;
  }

  public boolean isTrue() {
    if (ranSteps == 0) {
      return true;
    }
    checker.prepare(ranLines, ranArguments, ranSteps);
    checker.go();
    return checker.outcome == machine.outcome
        && checker.failure == machine.failure
        && checker.now == machine.now
        && checker.made == machine.made
        && checker.spoken.sameAs(machine.spoken)
        && machine.stepsAddUp()
        && machine.spoken.longest() <= MOST_TEXT
        && machine.waiting.longest() <= MOST_TEXT
        && machine.variables.longest() <= MOST_TEXT;
  }

  private boolean isWordTyped() {
    int from = wordBegin();
    int to = wordEnd();
    if (from >= to || !isLetter(typed[from])) {
      return false;
    }
    for (int i = from + 1; i < to; i++) {
      if (!isOfWord(typed[i])) {
        return false;
      }
    }
    return true;
  }

  /** Lets the variables find what has the name that is typed, and returns whether it is set. */
  private boolean askTyped() {
    int from = wordBegin();
    return machine.variables.ask(typed, from, wordEnd() - from);
  }

  // Blanks count in expressions alone, so those round the word that is typed are no part of it.
  private int wordBegin() {
    int from = 0;
    while (from < typedCount && typed[from] == ' ') {
      from++;
    }
    return from;
  }

  private int wordEnd() {
    int to = typedCount;
    while (to > 0 && typed[to - 1] == ' ') {
      to--;
    }
    return to;
  }

  private static boolean isLetter(char sign) {
    return sign >= 'a' && sign <= 'z';
  }

  private static boolean isDigit(char sign) {
    return sign >= '0' && sign <= '9';
  }

  private static boolean isOfWord(char sign) {
    return isLetter(sign) || isDigit(sign) || sign == '.';
  }

  private static char[] moreSigns(char[] signs, int needed) {
    char[] more = new char[Math.max(needed, 2 * signs.length)];
    System.arraycopy(signs, 0, more, 0, signs.length);
    return more;
  }

  private static int[] moreCells(int[] cells, int needed) {
    int[] more = new int[Math.max(needed, 2 * cells.length)];
    System.arraycopy(cells, 0, more, 0, cells.length);
    return more;
  }

  /** Texts, kept in one row of signs that is used again. */
  private static final class Texts {
    private char[] signs;
    private int top;
    private int[] froms;
    private int[] sizes;
    private int count;

    Texts(int texts, int room) {
      signs = new char[room];
      froms = new int[texts];
      sizes = new int[texts];
    }

    void empty() {
      count = 0;
      top = 0;
    }

    void add(char[] text, int from, int size) {
      if (count >= froms.length) {
        froms = moreCells(froms, count + 1);
        sizes = moreCells(sizes, count + 1);
      }
      froms[count] = top;
      sizes[count] = 0;
      count++;
      extend(text, from, size);
    }

    /** Puts signs behind the text that was added last. */
    void extend(char[] text, int from, int size) {
      if (count < 1 || from < 0 || size < 0 || from + size > text.length) {
        return;
      }
      if (top + size > signs.length) {
        signs = moreSigns(signs, top + size);
      }
      System.arraycopy(text, from, signs, top, size);
      top += size;
      sizes[count - 1] += size;
    }

    void addFirst(char[] text, int from, int size) {
      add(text, from, size);
      int addedFrom = froms[count - 1];
      int addedSize = sizes[count - 1];
      System.arraycopy(froms, 0, froms, 1, count - 1);
      System.arraycopy(sizes, 0, sizes, 1, count - 1);
      froms[0] = addedFrom;
      sizes[0] = addedSize;
    }

    void removeFirst() {
      if (count < 1) {
        return;
      }
      count--;
      System.arraycopy(froms, 1, froms, 0, count);
      System.arraycopy(sizes, 1, sizes, 0, count);
      if (count == 0) {
        top = 0;
      }
    }

    boolean has(int index, int place) {
      return index >= 0 && index < count && place >= 0 && place < sizes[index];
    }

    char sign(int index, int place) {
      return has(index, place) ? signs[froms[index] + place] : ' ';
    }

    void copy(Texts other) {
      empty();
      for (int i = 0; i < other.count; i++) {
        add(other.signs, other.froms[i], other.sizes[i]);
      }
    }

    boolean sameAs(Texts other) {
      if (count != other.count) {
        return false;
      }
      for (int i = 0; i < count; i++) {
        if (sizes[i] != other.sizes[i]) {
          return false;
        }
        for (int k = 0; k < sizes[i]; k++) {
          if (signs[froms[i] + k] != other.signs[other.froms[i] + k]) {
            return false;
          }
        }
      }
      return true;
    }

    int longest() {
      int most = 0;
      for (int i = 0; i < count; i++) {
        most = Math.max(most, sizes[i]);
      }
      return most;
    }

    long sum(long first) {
      long sum = first;
      for (int i = 0; i < count; i++) {
        for (int k = 0; k < sizes[i]; k++) {
          sum = 31 * sum + signs[froms[i] + k];
        }
        sum = 31 * sum + sizes[i];
      }
      return sum;
    }
  }

  /** What lines were turned into: cells of operations, with the text that they speak of. */
  private static final class Code {
    // operators with two sides, the strongest first
    static final int POWER = 1;
    static final int TIMES = 2;
    static final int OVER = 3;
    static final int WHOLE = 4;
    static final int LEFT = 5;
    static final int PLUS = 6;
    static final int MINUS = 7;
    static final int JOIN = 8;
    static final int SPACE = 9;
    static final int EQUAL = 10;
    static final int UNEQUAL = 11;
    static final int BELOW = 12;
    static final int ABOVE = 13;
    static final int NOT_ABOVE = 14;
    static final int NOT_BELOW = 15;
    static final int SAME = 16;
    static final int AND = 17;
    static final int OR = 18;
    // prefixes
    static final int POSITIVE = 19;
    static final int NEGATIVE = 20;
    static final int NOT = 21;
    // other parts of lines
    static final int OPEN = 22;
    static final int CLOSE = 23;
    static final int COMMA = 24;
    static final int COLON = 25;
    static final int DOT = 26;
    static final int WORD = 27;
    static final int NUMBER = 28;
    static final int TEXT = 29;
    // operands
    static final int LITERAL = 30;
    static final int VALUE = 31;
    static final int CALL = 32;
    // the way that is gone
    static final int NEXT = 40;
    static final int STOP = 41;
    static final int BLOCK = 42;
    static final int IF = 43;
    static final int ELSE = 44;
    static final int DO = 45;
    static final int COUNT = 46;
    static final int AMOUNT = 47;
    static final int NAMED = 48;
    static final int TRY = 49;
    static final int WHILE = 50;
    static final int ENTER = 51;
    static final int AGAIN = 52;
    static final int END = 53;
    static final int LEAVE = 54;
    static final int ITERATE = 55;
    static final int RETURN = 56;
    static final int EXIT = 57;
    static final int PROCEDURE = 58;
    static final int SIGNAL = 59;
    static final int CONDITION = 60;
    // other clauses
    static final int SET = 61;
    static final int SAY = 62;
    static final int COMMAND = 63;
    static final int DIGITS = 64;
    static final int PUSH = 65;
    static final int QUEUE = 66;
    static final int PULL = 67;
    static final int ADDRESS = 68;
    static final int DROP = 69;
    static final int PARSE_ARG = 70;
    static final int PARSE_VAR = 71;
    static final int PARSE_VALUE = 72;
    static final int INTERPRET = 73;
    // what a template has
    static final int INTO = 80;
    static final int SKIP = 81;
    static final int FOUND = 82;
    static final int PLACE = 83;
    static final int FURTHER = 84;
    static final int BACK = 85;
    static final int NEXT_TEXT = 86;
    static final int LAST = 87;

    /** Names that the machine itself speaks of; they stand ahead of all other text. */
    static final String NAMES = "resultrcsyntaxnovaluehost1 ";
    static final int RESULT = 0;
    static final int RESULT_SIZE = 6;
    static final int RC = 6;
    static final int RC_SIZE = 2;
    static final int SYNTAX = 8;
    static final int SYNTAX_SIZE = 6;
    static final int NOVALUE = 14;
    static final int NOVALUE_SIZE = 7;
    static final int HOST = 21;
    static final int HOST_SIZE = 4;
    static final int ONE = 25;
    static final int ONE_SIZE = 1;
    static final int BLANK = 26;

    private int[] cells;
    private int top;
    private char[] text;
    private int textTop;
    private final int[] kinds;
    private final int[] starts;
    private int lines;

    Code() {
      cells = new int[1024];
      text = new char[512];
      kinds = new int[MOST_LINES];
      starts = new int[MOST_LINES];
      for (int i = 0; i < NAMES.length(); i++) {
        text[i] = NAMES.charAt(i);
      }
    }

    /** Begins anew; the first cell is where a 'do' is sent to be done again. */
    void reset() {
      cells[0] = AGAIN;
      top = 1;
      textTop = NAMES.length();
      lines = 0;
    }

    int addText(char[] from, int start, int size) {
      int at = textTop;
      if (start < 0 || size < 0 || start + size > from.length) {
        return at;
      }
      if (textTop + size > text.length) {
        text = moreSigns(text, textTop + size);
      }
      System.arraycopy(from, start, text, textTop, size);
      textTop += size;
      return at;
    }

    void reserve(int size) {
      if (top + size > cells.length) {
        cells = moreCells(cells, top + size);
      }
    }

    /** Adds a cell; there is room for it since reserve. */
    void put(int cell) {
      if (top < cells.length) {
        cells[top] = cell;
        top++;
      }
    }

    void put(int first, int second, int third) {
      if (top + 3 <= cells.length) {
        cells[top] = first;
        cells[top + 1] = second;
        cells[top + 2] = third;
        top += 3;
      }
    }

    int cell(int place) {
      return place >= 0 && place < top ? cells[place] : STOP;
    }

    void addLine(int kind, int start) {
      if (lines < MOST_LINES) {
        kinds[lines] = kind;
        starts[lines] = start;
        lines++;
      }
    }

    /** The first line that is a label with the name; -1 for none. */
    int label(int from, int size) {
      for (int i = 0; i < lines; i++) {
        if (kinds[i] == Compiler.LABEL && cell(starts[i] + 1) == size
            && sameText(cell(starts[i]), from, size)) {
          return i;
        }
      }
      return -1;
    }

    private boolean sameText(int one, int other, int size) {
      if (Math.min(one, other) < 0 || Math.max(one, other) + size > text.length) {
        return false;
      }
      for (int i = 0; i < size; i++) {
        if (text[one + i] != text[other + i]) {
          return false;
        }
      }
      return true;
    }
  }

  /** The parts of one line, as they stand in a text. */
  private static final class Parts {
    private final int[] kinds;
    private final int[] begins;
    private final int[] ends;
    private int count;
    private boolean whole;

    Parts() {
      kinds = new int[MOST_TEXT];
      begins = new int[MOST_TEXT];
      ends = new int[MOST_TEXT];
    }

    void split(char[] text, int from, int size) {
      count = 0;
      whole = true;
      int end = from + size;
      int at = from;
      for (int turn = 0; turn < size && at < end && whole; turn++) {
        char sign = text[at];
        int begin = at;
        int kind;
        if (sign == ' ') {
          at++;
          continue;
        }
        if (isLetter(sign)) {
          kind = Code.WORD;
          at = wordEnd(text, at, end);
        } else if (isDigit(sign) || sign == '.' && at + 1 < end && isDigit(text[at + 1])) {
          kind = Code.NUMBER;
          at = numberEnd(text, at, end);
        } else if (sign == '\'') {
          kind = Code.TEXT;
          at = quoteEnd(text, at, end);
        } else {
          kind = pair(sign, at + 1 < end ? text[at + 1] : ' ');
          at += kind != 0 ? 2 : 1;
          kind = kind != 0 ? kind : single(sign);
        }
        whole = whole && kind != 0 && count < MOST_TEXT;
        if (whole) {
          kinds[count] = kind;
          begins[count] = begin;
          ends[count] = at;
          count++;
        }
      }
    }

    private static int wordEnd(char[] text, int from, int end) {
      int at = from + 1;
      while (at < end && isOfWord(text[at])) {
        at++;
      }
      return at;
    }

    private static int numberEnd(char[] text, int from, int end) {
      boolean dot = false;
      int at = from;
      while (at < end && (isDigit(text[at]) || text[at] == '.' && !dot)) {
        dot = dot || text[at] == '.';
        at++;
      }
      return at;
    }

    private int quoteEnd(char[] text, int from, int end) {
      int at = from + 1;
      while (at < end && text[at] != '\'') {
        at++;
      }
      whole = at < end;
      return at + 1;
    }

    private static int pair(char sign, char behind) {
      if (behind == '=') {
        return sign == '=' ? Code.SAME : sign == '~' ? Code.UNEQUAL
            : sign == '<' ? Code.NOT_ABOVE : sign == '>' ? Code.NOT_BELOW : 0;
      }
      if (behind != sign) {
        return 0;
      }
      return sign == '*' ? Code.POWER : sign == '/' ? Code.LEFT : sign == '|' ? Code.JOIN : 0;
    }

    private static int single(char sign) {
      switch (sign) {
        case '*': return Code.TIMES;
        case '/': return Code.OVER;
        case '%': return Code.WHOLE;
        case '+': return Code.PLUS;
        case '-': return Code.MINUS;
        case '=': return Code.EQUAL;
        case '<': return Code.BELOW;
        case '>': return Code.ABOVE;
        case '&': return Code.AND;
        case '|': return Code.OR;
        case '~': return Code.NOT;
        case '(': return Code.OPEN;
        case ')': return Code.CLOSE;
        case ',': return Code.COMMA;
        case ':': return Code.COLON;
        case '.': return Code.DOT;
        default: return 0;
      }
    }

    int kind(int part) {
      return part >= 0 && part < count ? kinds[part] : 0;
    }

    /** Where the signs of a part begin, the quotes of a text aside. */
    int from(int part) {
      if (part < 0 || part >= count) {
        return 0;
      }
      return kinds[part] == Code.TEXT ? begins[part] + 1 : begins[part];
    }

    int size(int part) {
      if (part < 0 || part >= count) {
        return 0;
      }
      return ends[part] - begins[part] - (kinds[part] == Code.TEXT ? 2 : 0);
    }

    /** Whether the part stands at once behind the one ahead of it. */
    boolean touches(int part) {
      return part > 0 && part < count && begins[part] == ends[part - 1];
    }
  }

  /** Turns the parts of a line into operations. */
  private static final class Compiler {
    // what lines may be; those from SAY on in the order of KEYWORDS
    static final int EMPTY = 0;
    static final int LABEL = 1;
    static final int BAD = 2;
    static final int ASSIGNMENT = 3;
    static final int COMMAND = 4;
    static final int SAY = 5;
    static final int IF = 6;
    static final int ELSE = 7;
    static final int DO = 8;
    static final int END = 9;
    static final int LEAVE = 10;
    static final int ITERATE = 11;
    static final int PROCEDURE = 12;
    static final int CALL = 13;
    static final int RETURN = 14;
    static final int EXIT = 15;
    static final int PARSE = 16;
    static final int DROP = 17;
    static final int DIGITS = 18;
    static final int SIGNAL = 19;
    static final int PUSH = 20;
    static final int QUEUE = 21;
    static final int PULL = 22;
    static final int INTERPRET = 23;
    static final int ADDRESS = 24;
    private static final String KEYWORDS = "say if else do end leave iterate procedure call return exit parse drop digits signal push queue pull interpret address";
    // words that end an expression
    private static final int TO = 1;
    private static final int BY = 2;
    private static final int WHILE = 4;
    private static final int WITH = 8;
    /** How strongly each operator of Code holds; what stands open holds nothing. */
    private static final int[] RANKS = {
      0, 8, 7, 7, 7, 7, 6, 6, 5, 5, 4, 4, 4, 4, 4, 4, 4, 3, 2, 9, 9, 9, 0
    };

    private final Code code;
    private final Parts parts;
    private int next;
    private final int[] heldOperators;
    private final int[] heldParts;
    private final int[] heldCommas;
    private int held;
    private int open;
    private boolean wanted;

    Compiler(Code code) {
      this.code = code;
      parts = new Parts();
      heldOperators = new int[2 * MOST_TEXT];
      heldParts = new int[2 * MOST_TEXT];
      heldCommas = new int[2 * MOST_TEXT];
    }

    /** Splits a text of the code, and tells what clause it seems to be. */
    int recognise(int from, int size) {
      parts.split(code.text, from, size);
      next = 0;
      if (!parts.whole) {
        return BAD;
      }
      if (parts.count == 0) {
        return EMPTY;
      }
      if (parts.kind(0) != Code.WORD) {
        return COMMAND;
      }
      if (parts.count == 2 && parts.kind(1) == Code.COLON) {
        return LABEL;
      }
      if (parts.kind(1) == Code.EQUAL) {
        return ASSIGNMENT;
      }
      int keyword = find(KEYWORDS, parts.from(0), parts.size(0));
      return keyword < 0 ? COMMAND : SAY + keyword;
    }

    /** Makes the operations of the clause; false if the line is not as such a clause is told. */
    boolean build(int clause) {
      code.reserve(8 * parts.count + 32);
      switch (clause) {
        case EMPTY: return true;
        case LABEL: return pair(0);
        case ASSIGNMENT: return valued(2, Code.SET) && pair(0);
        case COMMAND: return valued(0, Code.COMMAND);
        case SAY: return valued(1, Code.SAY);
        case IF: return operation(Code.BLOCK, Calls.CHOICE) && valued(1, Code.IF);
        case ELSE: return alone(Code.ELSE);
        case DO: return loop();
        case END: return alone(Code.END);
        case LEAVE: return alone(Code.LEAVE);
        case ITERATE: return alone(Code.ITERATE);
        case PROCEDURE: return procedure();
        case CALL: return call();
        case RETURN:
          return parts.count == 1 ? operation(Code.RETURN, 0)
              : valued(1, Code.RETURN) && operation(1);
        case EXIT: return alone(Code.EXIT);
        case PARSE: return parse();
        case DROP: return drop();
        case DIGITS: return valued(1, Code.DIGITS);
        case SIGNAL: return signal();
        case PUSH: return valued(1, Code.PUSH);
        case QUEUE: return valued(1, Code.QUEUE);
        case PULL:
          return parts.count == 2 && parts.kind(1) == Code.WORD && operation(Code.PULL) && pair(1);
        case INTERPRET: return valued(1, Code.INTERPRET);
        case ADDRESS: return parts.count == 2 && isName(1) && operation(Code.ADDRESS) && pair(1);
        default: return false;
      }
    }

    /** Makes the operations of an expression that is all there is. */
    boolean buildExpression() {
      code.reserve(8 * parts.count + 32);
      return parts.whole && valued(0, Code.STOP);
    }

    private boolean operation(int operation) {
      code.put(operation);
      return true;
    }

    private boolean operation(int operation, int kind) {
      code.put(operation);
      code.put(kind);
      return true;
    }

    private boolean pair(int part) {
      code.put(parts.from(part));
      code.put(parts.size(part));
      return true;
    }

    private boolean alone(int operation) {
      code.put(operation);
      return parts.count == 1;
    }

    /** An expression from a part on to the end of the line, and what is done with its value. */
    private boolean valued(int from, int operation) {
      next = from;
      if (!expression(0) || next < parts.count) {
        return false;
      }
      code.put(operation);
      return true;
    }

    private boolean loop() {
      code.put(Code.BLOCK);
      code.put(Calls.ONCE);
      int enders = WHILE;
      next = 1;
      if (parts.kind(1) == Code.WORD && parts.kind(2) == Code.EQUAL) {
        enders = TO | BY | WHILE;
        int told = 0;
        next = 3;
        if (!expression(enders) || !operation(Code.AMOUNT)) {
          return false;
        }
        if (isEnder(TO)) {
          told = TO;
          next++;
          if (!expression(enders) || !operation(Code.AMOUNT)) {
            return false;
          }
        }
        if (isEnder(BY)) {
          told |= BY;
          next++;
          if (!expression(enders) || !operation(Code.AMOUNT)) {
            return false;
          }
        }
        code.put(Code.NAMED, (told & TO) != 0 ? 1 : 0, (told & BY) != 0 ? 1 : 0);
        code.put(Code.PLUS);
        code.put(Code.TRY, parts.from(1), parts.size(1));
      } else if (parts.count == 1 || isEnder(WHILE)) {
        code.put(Code.DO);
        code.put(parts.count == 1 ? Calls.ONCE : Calls.ENDLESS);
      } else {
        if (!expression(enders)) {
          return false;
        }
        code.put(Code.COUNT);
      }
      if (isEnder(WHILE)) {
        next++;
        if (!expression(enders)) {
          return false;
        }
        code.put(Code.WHILE);
      }
      code.put(Code.ENTER);
      return next == parts.count;
    }

    private boolean procedure() {
      code.put(Code.PROCEDURE);
      int exposed = Math.max(0, parts.count - 2);
      code.put(exposed);
      if (parts.count == 1) {
        return true;
      }
      if (exposed == 0 || !is(1, "expose")) {
        return false;
      }
      for (int part = 2; part < parts.count; part++) {
        if (!isName(part) && !isStem(part)) {
          return false;
        }
        pair(part);
      }
      return true;
    }

    private boolean call() {
      if (!isName(1)) {
        return false;
      }
      int count = 0;
      next = 2;
      if (parts.count > 2) {
        next = 1;
        do {
          next++;
          if (!expression(0)) {
            return false;
          }
          count++;
        } while (parts.kind(next) == Code.COMMA && count < parts.count);
      }
      int from = parts.from(1);
      int size = parts.size(1);
      code.put(Code.CALL, from, size);
      code.put(count, find(Reckoner.FUNCTIONS, from, size), 1);
      return next == parts.count;
    }

    private boolean parse() {
      if (is(1, "arg")) {
        code.put(Code.PARSE_ARG);
        return template(2);
      }
      if (is(1, "var") && parts.kind(2) == Code.WORD) {
        code.put(Code.PARSE_VAR);
        pair(2);
        return template(3);
      }
      next = 2;
      if (!is(1, "value") || !expression(WITH) || !isEnder(WITH)) {
        return false;
      }
      code.put(Code.PARSE_VALUE);
      return template(next + 1);
    }

    private boolean template(int from) {
      for (int part = from; part < parts.count; part++) {
        int kind = parts.kind(part);
        int use = kind == Code.WORD ? Code.INTO : kind == Code.DOT ? Code.SKIP
            : kind == Code.TEXT ? Code.FOUND : kind == Code.NUMBER ? Code.PLACE
            : kind == Code.COMMA ? Code.NEXT_TEXT : 0;
        if ((kind == Code.PLUS || kind == Code.MINUS) && parts.kind(part + 1) == Code.NUMBER) {
          use = kind == Code.PLUS ? Code.FURTHER : Code.BACK;
          part++;
        }
        if (use == 0) {
          return false;
        }
        code.put(use, parts.from(part), parts.size(part));
      }
      code.put(Code.LAST, 0, 0);
      return true;
    }

    private boolean drop() {
      code.put(Code.DROP);
      code.put(parts.count - 1);
      for (int part = 1; part < parts.count; part++) {
        if (parts.kind(part) != Code.WORD) {
          return false;
        }
        pair(part);
      }
      return parts.count > 1;
    }

    private boolean signal() {
      if (parts.count == 2 && isName(1)) {
        code.put(Code.SIGNAL);
        return pair(1);
      }
      boolean novalue = is(2, "novalue");
      boolean on = is(1, "on");
      code.put(Code.CONDITION, novalue ? 1 : 0, on ? 1 : 0);
      return parts.count == 3 && (on || is(1, "off")) && (novalue || is(2, "syntax"));
    }

    /**
     * Makes the operations of the expression that begins with the next part, and goes on up to
     * one of the enders, or to what can't belong to it.
     */
    private boolean expression(int enders) {
      held = 0;
      open = 0;
      wanted = true;
      boolean going = true;
      for (int turn = 0; turn <= 2 * parts.count && going && next < parts.count; turn++) {
        int kind = parts.kind(next);
        if (open == 0 && isEnder(enders)) {
          going = false;
        } else if (wanted && kind == Code.WORD && parts.kind(next + 1) == Code.OPEN
            && parts.touches(next + 1)) {
          openCall();
        } else if (wanted) {
          if (!operand(kind)) {
            return false;
          }
        } else if (kind == Code.CLOSE || kind == Code.COMMA) {
          going = open > 0 && bracket(kind);
        } else {
          going = operator(kind);
        }
      }
      if (wanted || open > 0) {
        return false;
      }
      release(1);
      return true;
    }

    private boolean operand(int kind) {
      switch (kind) {
        case Code.PLUS: return hold(Code.POSITIVE);
        case Code.MINUS: return hold(Code.NEGATIVE);
        case Code.NOT: return hold(Code.NOT);
        case Code.OPEN:
          open++;
          return hold(Code.OPEN);
        case Code.NUMBER:
        case Code.TEXT:
          code.put(Code.LITERAL, parts.from(next), parts.size(next));
          break;
        case Code.WORD:
          code.put(Code.VALUE, parts.from(next), parts.size(next));
          break;
        default: return false;
      }
      wanted = false;
      next++;
      return true;
    }

    /** A call stands open like a bracket; one without arguments waits for its end alone. */
    private void openCall() {
      if (!hold(Code.OPEN)) {
        return;
      }
      heldParts[held - 1] = next - 1;
      open++;
      next++;
      if (parts.kind(next) == Code.CLOSE) {
        heldCommas[held - 1] = -1;
        wanted = false;
      }
    }

    private boolean hold(int operator) {
      if (held >= heldOperators.length) {
        return false;
      }
      heldOperators[held] = operator;
      heldParts[held] = -1;
      heldCommas[held] = 0;
      held++;
      next++;
      wanted = true;
      return true;
    }

    private boolean operator(int kind) {
      if (kind >= Code.POWER && kind <= Code.OR) {
        release(RANKS[kind]);
        return hold(kind);
      }
      if (kind != Code.WORD && kind != Code.NUMBER && kind != Code.TEXT && kind != Code.OPEN
          && kind != Code.NOT) {
        return false;
      }
      release(RANKS[Code.JOIN]);
      hold(parts.touches(next) ? Code.JOIN : Code.SPACE);
      next--;
      return true;
    }

    /** A comma or a closing bracket where something stands open. */
    private boolean bracket(int kind) {
      release(1);
      int innermost = held - 1;
      boolean isCall = innermost >= 0 && heldParts[innermost] >= 0;
      if (kind == Code.COMMA) {
        if (isCall) {
          heldCommas[innermost]++;
          wanted = true;
          next++;
        }
        return isCall;
      }
      if (isCall) {
        int from = parts.from(heldParts[innermost]);
        int size = parts.size(heldParts[innermost]);
        code.put(Code.CALL, from, size);
        code.put(heldCommas[innermost] + 1, find(Reckoner.FUNCTIONS, from, size), 0);
      }
      held--;
      open--;
      next++;
      return true;
    }

    /** Lets go the operators that hold at least as strongly, up to what stands open. */
    private void release(int rank) {
      while (held > 0 && RANKS[heldOperators[held - 1]] >= rank && code.top < code.cells.length) {
        held--;
        code.cells[code.top] = heldOperators[held];
        code.top++;
      }
    }

    private boolean isEnder(int enders) {
      return enders != 0 && parts.kind(next) == Code.WORD
          && ((enders & TO) != 0 && is(next, "to")
              || (enders & BY) != 0 && is(next, "by")
              || (enders & WHILE) != 0 && is(next, "while")
              || (enders & WITH) != 0 && is(next, "with"));
    }

    private boolean is(int part, String word) {
      if (part < 0 || part >= parts.count || parts.kinds[part] != Code.WORD
          || parts.ends[part] - parts.begins[part] != word.length()) {
        return false;
      }
      int from = parts.begins[part];
      for (int i = 0; i < word.length(); i++) {
        if (code.text[from + i] != word.charAt(i)) {
          return false;
        }
      }
      return true;
    }

    private boolean isName(int part) {
      return parts.kind(part) == Code.WORD && firstDot(part) == parts.size(part);
    }

    private boolean isStem(int part) {
      return parts.kind(part) == Code.WORD && firstDot(part) == parts.size(part) - 1;
    }

    private int firstDot(int part) {
      int from = parts.from(part);
      int size = parts.size(part);
      int at = 0;
      while (at < size && code.text[from + at] != '.') {
        at++;
      }
      return at;
    }

    /** The place of a word in a list of words, from 0; -1 if it is not there. */
    private int find(String list, int from, int size) {
      if (from < 0 || from + size > code.text.length) {
        return -1;
      }
      int index = 0;
      for (int at = 0; at < list.length(); at++) {
        int same = 0;
        while (same < size && at + same < list.length()
            && list.charAt(at + same) == code.text[from + same]) {
          same++;
        }
        int behind = at + same;
        if (same == size && (behind == list.length() || list.charAt(behind) == ' ')) {
          return index;
        }
        while (at < list.length() && list.charAt(at) != ' ') {
          at++;
        }
        index++;
      }
      return -1;
    }
  }

  /** The values that are being worked with, one behind the other in one row of signs. */
  private static final class Values {
    private char[] signs;
    private int top;
    private int[] froms;
    private int[] sizes;
    private int count;

    Values() {
      signs = new char[1024];
      froms = new int[64];
      sizes = new int[64];
    }

    void empty() {
      count = 0;
      top = 0;
    }

    void push(char[] text, int from, int size) {
      if (from < 0 || size < 0 || from + size > text.length) {
        return;
      }
      if (count >= froms.length) {
        froms = moreCells(froms, count + 1);
        sizes = moreCells(sizes, count + 1);
      }
      if (top + size > signs.length) {
        signs = moreSigns(signs, top + size);
      }
      System.arraycopy(text, from, signs, top, size);
      froms[count] = top;
      sizes[count] = size;
      count++;
      top += size;
    }

    int sizeOf(int index) {
      return index >= 0 && index < count ? sizes[index] : 0;
    }

    int fromOf(int index) {
      return index >= 0 && index < count ? froms[index] : 0;
    }

    char sign(int index, int place) {
      return place >= 0 && place < sizeOf(index) ? signs[froms[index] + place] : ' ';
    }

    void truncate(int length) {
      if (length >= 0 && length < count) {
        top = froms[length];
        count = length;
      }
    }

    void drop(int number) {
      truncate(count - number);
    }

    /** Puts the last two values together, with perhaps a blank between. */
    void join(boolean blank) {
      if (count < 2) {
        return;
      }
      int last = count - 1;
      if (blank) {
        if (top >= signs.length) {
          signs = moreSigns(signs, top + 1);
        }
        System.arraycopy(signs, froms[last], signs, froms[last] + 1, sizes[last]);
        signs[froms[last]] = ' ';
        sizes[last]++;
        top++;
      }
      sizes[last - 1] += sizes[last];
      count--;
    }

    /** Lets a piece of a value take the place of that value and of all behind it. */
    void keep(int index, int place, int source, int size) {
      if (index < 0 || index > source || source >= count || place < 0 || size < 0
          || place + size > sizes[source]) {
        return;
      }
      System.arraycopy(signs, froms[source] + place, signs, froms[index], size);
      sizes[index] = size;
      count = index + 1;
      top = froms[index] + size;
    }
  }

  /**
   * The variables: those that 'procedure' begins anew stand as a level above those of the caller,
   * and each element tells in which turn of its stem it was set, as all are set with the stem.
   */
  private static final class Variables {
    private static final int CELLS = 10;
    private static final int NEXT = 0;
    private static final int POOL = 1;
    private static final int KIND = 2;
    private static final int NAME = 3;
    private static final int NAME_SIZE = 4;
    private static final int VALUE = 5;
    private static final int VALUE_SIZE = 6;
    private static final int ROOM = 7;
    private static final int TURN = 8;
    private static final int HASH = 9;
    private static final int ALONE = 0;
    private static final int ELEMENT = 1;
    /** As many signs stand in a long: a run may set thousands of long values. */
    private static final int PACKED = 8;
    private static final int SIGN_BITS = 8;

    private final Code code;
    private int[] cells;
    private int[] heads;
    private int count;
    private long[] store;
    private int top;
    private final int[] pools;
    private final int[] exposed;
    private int level;
    private int lastPool;
    // the variable that is spoken of
    private char[] key;
    private int keySize;
    private int stemSize;
    private int keyPool;
    private boolean element;
    // the value that was looked at
    private char[] found;
    private int foundSize;
    private final char[] shown;
    // what was sought last, as it would stand in the store
    private final long[] sought;
    private int hash;

    Variables(Code code) {
      this.code = code;
      cells = new int[64 * CELLS];
      heads = new int[64];
      store = new long[256];
      pools = new int[MOST_UNDER_WAY + 1];
      exposed = new int[MOST_UNDER_WAY + 1];
      key = new char[2 * MOST_TEXT];
      shown = new char[MOST_TEXT];
      found = shown;
      sought = new long[2 * MOST_TEXT / PACKED];
    }

    void reset() {
      for (int i = 0; i < heads.length; i++) {
        heads[i] = -1;
      }
      count = 0;
      top = 0;
      level = 0;
      lastPool = 0;
      pools[0] = 0;
    }

    /** Begins new variables but for the names that are told in the code from a cell on. */
    void begin(int names) {
      if (level + 1 < pools.length) {
        level++;
        lastPool++;
        pools[level] = lastPool;
        exposed[level] = names;
      }
    }

    /** Speaks of a variable from now on, of an element with the tail that is put together. */
    void locate(char[] text, int from, int size) {
      int end = Math.min(from + size, text.length);
      int dot = from;
      while (dot < end && text[dot] != '.') {
        dot++;
      }
      int stemEnd = Math.min(dot + 1, end);
      element = stemEnd < end;
      keySize = 0;
      stemSize = stemEnd - from;
      append(text, from, stemSize);
      keyPool = poolOf(text, from, stemSize);
      int begin = stemEnd;
      for (int at = stemEnd; element && at <= end; at++) {
        if (at < end && text[at] != '.') {
          continue;
        }
        int part = -1;
        if (at > begin && isLetter(text[begin])) {
          part = find(poolOf(text, begin, at - begin), text, begin, at - begin, ALONE);
        }
        if (part >= 0 && cells[part + VALUE_SIZE] >= 0) {
          appendValue(part);
        } else {
          append(text, begin, at - begin);
        }
        if (at < end) {
          append(text, at, 1);
        }
        begin = at + 1;
      }
    }

    boolean isTooLong() {
      return keySize - stemSize > MOST_TEXT;
    }

    /** Looks at the value; false if it was not set, and the name is the value. */
    boolean look() {
      int stem = find(keyPool, key, 0, stemSize, ALONE);
      int slot = element && stem >= 0 ? find(keyPool, key, 0, keySize, ELEMENT) : -1;
      if (slot >= 0 && cells[slot + VALUE_SIZE] >= 0 && cells[slot + TURN] == cells[stem + TURN]) {
        return show(slot);
      }
      if (stem >= 0 && cells[stem + VALUE_SIZE] >= 0) {
        return show(stem);
      }
      found = key;
      foundSize = keySize;
      return false;
    }

    private boolean show(int slot) {
      found = shown;
      foundSize = Math.min(cells[slot + VALUE_SIZE], shown.length);
      unpack(cells[slot + VALUE], foundSize, shown, 0);
      return true;
    }

    boolean ask(char[] text, int from, int size) {
      locate(text, from, size);
      return look();
    }

    char foundSign(int place) {
      return place >= 0 && place < foundSize ? found[place] : ' ';
    }

    /** Sets the variable that is spoken of. */
    void put(char[] text, int from, int size) {
      int slot = find(keyPool, key, 0, stemSize, ALONE);
      if (slot < 0) {
        slot = add(stemSize, ALONE);
      }
      if (element) {
        int turn = cells[slot + TURN];
        slot = find(keyPool, key, 0, keySize, ELEMENT);
        if (slot < 0) {
          slot = add(keySize, ELEMENT);
        }
        cells[slot + TURN] = turn;
      } else {
        cells[slot + TURN]++;
      }
      int room = (size + PACKED - 1) / PACKED;
      if (room > cells[slot + ROOM]) {
        cells[slot + VALUE] = reserve(room);
        cells[slot + ROOM] = room;
      }
      int at = cells[slot + VALUE];
      for (int i = 0; i < room; i++) {
        store[at + i] = packed(text, from + i * PACKED, from + size);
      }
      cells[slot + VALUE_SIZE] = size;
    }

    void drop() {
      int slot = element ? find(keyPool, key, 0, keySize, ELEMENT)
          : find(keyPool, key, 0, keySize, ALONE);
      if (slot >= 0) {
        cells[slot + VALUE_SIZE] = -1;
        if (!element) {
          cells[slot + TURN]++;
        }
      }
    }

    int longest() {
      int most = 0;
      for (int i = 0; i < count; i++) {
        most = Math.max(most, cells[i * CELLS + VALUE_SIZE]);
      }
      return most;
    }

    private void append(char[] text, int from, int size) {
      if (from < 0 || size < 0 || from + size > text.length) {
        return;
      }
      if (keySize + size > key.length) {
        key = moreSigns(key, keySize + size);
      }
      System.arraycopy(text, from, key, keySize, size);
      keySize += size;
    }

    private void appendValue(int slot) {
      int size = cells[slot + VALUE_SIZE];
      if (keySize + size > key.length) {
        key = moreSigns(key, keySize + size);
      }
      unpack(cells[slot + VALUE], size, key, keySize);
      keySize += size;
    }

    /** The signs from a place on, up to an end, that stand in one long. */
    private static long packed(char[] text, int from, int end) {
      long signs = 0;
      for (int i = Math.min(Math.min(from + PACKED, end), text.length) - 1; i >= from; i--) {
        signs = signs << SIGN_BITS | text[i];
      }
      return signs;
    }

    private void unpack(int at, int size, char[] out, int from) {
      long signs = 0;
      for (int i = 0; i < size && at + i / PACKED < store.length && from + i < out.length; i++) {
        signs = i % PACKED == 0 ? store[at + i / PACKED] : signs >>> SIGN_BITS;
        out[from + i] = (char) (signs & 255);
      }
    }

    /** Lets so many further longs of the store be used; tells where they begin. */
    private int reserve(int room) {
      if (top + room > store.length) {
        long[] more = new long[Math.max(top + room, 2 * store.length)];
        System.arraycopy(store, 0, more, 0, top);
        store = more;
      }
      int at = top;
      top += room;
      return at;
    }

    /** The variables in which a name or a stem is, as it may be exposed. */
    private int poolOf(char[] text, int from, int size) {
      int at = level;
      while (at > 0 && isExposed(exposed[at], text, from, size)) {
        at--;
      }
      return pools[at];
    }

    private boolean isExposed(int names, char[] text, int from, int size) {
      if (names < 0 || names >= code.top) {
        return false;
      }
      int end = Math.min(names + 2 * code.cells[names], code.top - 1);
      for (int name = names + 1; name < end; name += 2) {
        if (code.cells[name + 1] == size) {
          int at = code.cells[name];
          int same = 0;
          while (same < size && code.text[at + same] == text[from + same]) {
            same++;
          }
          if (same == size) {
            return true;
          }
        }
      }
      return false;
    }

    /** Where a variable is kept; -1 if it is not. What was sought stays known for add. */
    private int find(int pool, char[] text, int from, int size, int kind) {
      int room = (size + PACKED - 1) / PACKED;
      if (room > sought.length) {
        return -1;
      }
      hash = 31 * pool + kind;
      for (int i = 0; i < room; i++) {
        long signs = packed(text, from + i * PACKED, from + size);
        sought[i] = signs;
        hash = 31 * hash + (int) (signs ^ signs >>> 32);
      }
      hash ^= hash >>> 15;
      int slot = heads[hash & (heads.length - 1)];
      for (int turn = 0; turn <= count && slot >= 0; turn++) {
        if (cells[slot + POOL] == pool && cells[slot + KIND] == kind
            && cells[slot + NAME_SIZE] == size) {
          int name = cells[slot + NAME];
          int same = 0;
          while (same < room && store[name + same] == sought[same]) {
            same++;
          }
          if (same == room) {
            return slot;
          }
        }
        slot = cells[slot + NEXT];
      }
      return -1;
    }

    /** Adds the variable that was sought, and was not found, to those of the key; tells where. */
    private int add(int size, int kind) {
      int slot = count * CELLS;
      if (slot + CELLS > cells.length) {
        cells = moreCells(cells, slot + CELLS);
        spread(2 * heads.length);
      }
      int room = Math.min((size + PACKED - 1) / PACKED, sought.length);
      cells[slot + NAME] = reserve(room);
      System.arraycopy(sought, 0, store, cells[slot + NAME], room);
      cells[slot + POOL] = keyPool;
      cells[slot + KIND] = kind;
      cells[slot + NAME_SIZE] = size;
      cells[slot + VALUE_SIZE] = -1;
      cells[slot + ROOM] = 0;
      cells[slot + TURN] = 0;
      cells[slot + HASH] = hash;
      int place = hash & (heads.length - 1);
      cells[slot + NEXT] = heads[place];
      heads[place] = slot;
      count++;
      return slot;
    }

    /** Lets all variables be found by more heads. */
    private void spread(int length) {
      heads = new int[length];
      for (int i = 0; i < length; i++) {
        heads[i] = -1;
      }
      for (int i = 0; i < count; i++) {
        int place = cells[i * CELLS + HASH] & (length - 1);
        cells[i * CELLS + NEXT] = heads[place];
        heads[place] = i * CELLS;
      }
    }
  }

  /** A decimal number: its digits from the first that is not 0 on, times a power of ten. */
  private static final class Decimal {
    private static final int MOST_WHOLE = 1000000000;

    private final int[] digits;
    private int count;
    private int power;
    private boolean minus;

    Decimal(int room) {
      digits = new int[room];
    }

    /** Reads a text, rounded to so many digits; false if it is no number. */
    boolean read(char[] text, int from, int size, int most) {
      int at = from;
      int end = Math.min(from + size, text.length);
      while (at < end && text[at] == ' ') {
        at++;
      }
      while (end > at && text[end - 1] == ' ') {
        end--;
      }
      boolean signed = at < end && (text[at] == '+' || text[at] == '-');
      boolean below = signed && text[at] == '-';
      at = mantissa(text, signed ? at + 1 : at, end, most);
      if (at < 0 || at < end && !exponent(text, at, end)) {
        return false;
      }
      minus = below && count > 0;
      return true;
    }

    /** Reads digits and a dot; tells where they end, or -1 if there is no digit. */
    private int mantissa(char[] text, int from, int end, int most) {
      boolean dot = false;
      boolean up = false;
      int seen = 0;
      int decimals = 0;
      int left = 0;
      int at = from;
      count = 0;
      while (at < end && (text[at] >= '0' && text[at] <= '9' || text[at] == '.' && !dot)) {
        int digit = text[at] - '0';
        if (digit < 0) {
          dot = true;
        } else {
          seen++;
          decimals += dot ? 1 : 0;
          if (count < most && count < digits.length) {
            if (count > 0 || digit > 0) {
              digits[count] = digit;
              count++;
            }
          } else {
            up = left == 0 ? digit >= 5 : up;
            left++;
          }
        }
        at++;
      }
      power = left - decimals;
      if (up) {
        increase();
      }
      return seen == 0 ? -1 : at;
    }

    private boolean exponent(char[] text, int from, int end) {
      int at = from + 1;
      boolean signed = at < end && (text[at] == '+' || text[at] == '-');
      boolean below = signed && text[at] == '-';
      at += signed ? 1 : 0;
      if (text[from] != 'e' || at >= end || end - at > 2) {
        return false;
      }
      int sum = 0;
      for (int i = at; i < end; i++) {
        if (text[i] < '0' || text[i] > '9') {
          return false;
        }
        sum = 10 * sum + text[i] - '0';
      }
      power += below ? -sum : sum;
      return true;
    }

    /** Adds one to the last digit; nines all through become a one with as many digits. */
    private void increase() {
      int at = count - 1;
      while (at >= 0 && digits[at] == 9) {
        digits[at] = 0;
        at--;
      }
      if (at >= 0) {
        digits[at]++;
      } else {
        digits[0] = 1;
        power++;
      }
    }

    void round(int most) {
      if (count > most) {
        boolean up = digits[most] >= 5;
        power += count - most;
        count = most;
        if (up) {
          increase();
        }
      }
    }

    /** Takes zeros ahead away. */
    void trim() {
      int zeros = 0;
      while (zeros < count && digits[zeros] == 0) {
        zeros++;
      }
      count -= zeros;
      System.arraycopy(digits, zeros, digits, 0, count);
      minus = minus && count > 0;
    }

    void loseZeros() {
      while (power < 0 && count > 0 && digits[count - 1] == 0) {
        count--;
        power++;
      }
    }

    void copy(Decimal other) {
      count = Math.min(other.count, digits.length);
      System.arraycopy(other.digits, 0, digits, 0, count);
      power = other.power;
      minus = other.minus;
    }

    void setOne() {
      digits[0] = 1;
      count = 1;
      power = 0;
      minus = false;
    }

    /** The digit that counts so high a power of ten. */
    int digitOf(int high) {
      int index = count - 1 - (high - power);
      return index >= 0 && index < count ? digits[index] : 0;
    }

    int compareSize(Decimal other) {
      if (count == 0 || other.count == 0) {
        return Integer.compare(count, other.count);
      }
      if (count + power != other.count + other.power) {
        return Integer.compare(count + power, other.count + other.power);
      }
      int most = Math.max(count, other.count);
      for (int i = 0; i < most; i++) {
        int mine = i < count ? digits[i] : 0;
        int its = i < other.count ? other.digits[i] : 0;
        if (mine != its) {
          return Integer.compare(mine, its);
        }
      }
      return 0;
    }

    int compare(Decimal other) {
      if (minus != other.minus) {
        return minus ? -1 : 1;
      }
      return minus ? -compareSize(other) : compareSize(other);
    }

    boolean isWhole() {
      for (int i = Math.max(0, count + power); i < count; i++) {
        if (digits[i] != 0) {
          return false;
        }
      }
      return true;
    }

    /** The part ahead of the dot, kept within a thousand millions. */
    int whole() {
      long sum = 0;
      int ahead = count == 0 ? 0 : count + power;
      for (int i = 0; i < ahead && sum < MOST_WHOLE; i++) {
        sum = 10 * sum + (i < count ? digits[i] : 0);
      }
      int value = (int) Math.min(sum, MOST_WHOLE);
      return minus ? -value : value;
    }

    /** Writes it with so many digits set; tells how many signs, or -1 for too high an exponent. */
    int write(char[] out, int most) {
      if (count == 0) {
        out[0] = '0';
        return 1;
      }
      int size = 0;
      if (minus) {
        out[0] = '-';
        size = 1;
      }
      if (count + power <= most && -power <= 2 * most) {
        return writePlain(out, size);
      }
      return Math.abs(count + power - 1) > 99 ? -1 : writeHigh(out, size);
    }

    private int writePlain(char[] out, int from) {
      int size = from;
      int last = Math.max(0, -power);
      for (int high = Math.max(0, count + power - 1); high >= -last; high--) {
        if (high == -1) {
          out[size] = '.';
          size++;
        }
        int index = count + power - 1 - high;
        out[size] = (char) ('0' + (index >= 0 && index < count ? digits[index] : 0));
        size++;
      }
      return size;
    }

    private int writeHigh(char[] out, int from) {
      int size = from;
      int exponent = count + power - 1;
      for (int i = 0; i < count; i++) {
        if (i == 1) {
          out[size] = '.';
          size++;
        }
        out[size] = (char) ('0' + digits[i]);
        size++;
      }
      out[size] = 'e';
      out[size + 1] = exponent < 0 ? '-' : '+';
      size += 2;
      int shown = Math.abs(exponent);
      if (shown > 9) {
        out[size] = (char) ('0' + shown / 10);
        size++;
      }
      out[size] = (char) ('0' + shown % 10);
      return size + 1;
    }
  }

  /** Works out operators and the functions that are built in, on the last values. */
  private static final class Reckoner {
    static final String FUNCTIONS = "length words word substr copies pos abs max min";
    private static final int LENGTH = 0;
    private static final int WORDS = 1;
    private static final int WORD = 2;
    private static final int SUBSTR = 3;
    private static final int COPIES = 4;
    private static final int POS = 5;
    private static final int ABS = 6;
    private static final int MAX = 7;
    private static final int[] ARGUMENTS = {1, 1, 2, 3, 2, 2, 1, 2, 2};
    // errors
    static final int NOT_WHOLE = 26;
    static final int NOT_TRUTH = 34;
    static final int BAD_ARGUMENT = 40;
    static final int NO_NUMBER = 41;
    static final int OVERFLOW = 42;
    static final int TOO_LONG = 45;

    private static final int MOST_EXPONENT = 99;
    /** Powers are reckoned with nine digits a cell. */
    private static final long BASE = 1000000000;
    private static final int BASE_DIGITS = 9;
    private static final int POWER_CELLS = 230;
    private static final int POWER_DIGITS = BASE_DIGITS * POWER_CELLS;
    private static final int SUM_DIGITS = 1024;

    private final Values values;
    private int precision;
    private final Decimal first;
    private final Decimal second;
    private final Decimal result;
    private final Decimal wide;
    private final int[] rest;
    private final long[] row;
    private final long[] spare;
    private final char[] buffer;

    Reckoner(Values values) {
      this.values = values;
      first = new Decimal(MOST_DIGITS + 1);
      second = new Decimal(MOST_DIGITS + 1);
      result = new Decimal(SUM_DIGITS);
      wide = new Decimal(POWER_DIGITS);
      rest = new int[POWER_DIGITS + 1];
      row = new long[POWER_CELLS];
      spare = new long[POWER_CELLS];
      buffer = new char[MOST_TEXT];
    }

    /** Puts the last two values together by an operator; tells the error, or 0. */
    int binary(int operator) {
      int last = values.count - 1;
      if (operator <= Code.MINUS) {
        return arithmetic(operator);
      }
      if (operator <= Code.SPACE) {
        int blank = operator == Code.SPACE ? 1 : 0;
        if (values.sizeOf(last - 1) + blank + values.sizeOf(last) > MOST_TEXT) {
          return TOO_LONG;
        }
        values.join(blank == 1);
        return 0;
      }
      if (operator <= Code.NOT_BELOW) {
        int order = read(first, last - 1) && read(second, last)
            ? first.compare(second) : compareTexts(last - 1, last);
        return answer(holds(operator, order), 2);
      }
      if (operator == Code.SAME) {
        return answer(isSame(last - 1, last), 2);
      }
      int left = truth(last - 1);
      int right = truth(last);
      if (left < 0 || right < 0) {
        return NOT_TRUTH;
      }
      return answer(operator == Code.AND ? left + right == 2 : left + right > 0, 2);
    }

    /** Puts a prefix ahead of the last value; tells the error, or 0. */
    int prefix(int operator) {
      int last = values.count - 1;
      if (operator == Code.NOT) {
        int truth = truth(last);
        return truth < 0 ? NOT_TRUTH : answer(truth == 0, 1);
      }
      if (!read(result, last)) {
        return NO_NUMBER;
      }
      if (operator == Code.NEGATIVE && result.count > 0) {
        result.minus = !result.minus;
      }
      return give(1);
    }

    /** 1 or 0, as a value is; -1 if it is neither. */
    int truth(int index) {
      char sign = values.sign(index, 0);
      if (values.sizeOf(index) != 1 || sign != '0' && sign != '1') {
        return -1;
      }
      return sign - '0';
    }

    private boolean read(Decimal number, int index) {
      return number.read(values.signs, values.fromOf(index), values.sizeOf(index), precision);
    }

    /** Writes the last value as a number; tells the error, or 0. */
    int asAmount() {
      return read(result, values.count - 1) ? give(1) : NOT_WHOLE;
    }

    /** A value as a whole number that is not below the least; -1 if it is no such one. */
    int whole(int index, int least) {
      boolean isNumber =
          first.read(values.signs, values.fromOf(index), values.sizeOf(index), precision);
      if (!isNumber || !first.isWhole()) {
        return -1;
      }
      int value = first.whole();
      return value < least ? -1 : value;
    }

    boolean isNumber(int index) {
      return first.read(values.signs, values.fromOf(index), values.sizeOf(index), precision);
    }

    /** How two values compare that are numbers. */
    int compareNumbers(int one, int other) {
      first.read(values.signs, values.fromOf(one), values.sizeOf(one), precision);
      second.read(values.signs, values.fromOf(other), values.sizeOf(other), precision);
      return first.compare(second);
    }

    /** Whether a value that is a number is below 0. */
    boolean isBelowZero(int index) {
      first.read(values.signs, values.fromOf(index), values.sizeOf(index), precision);
      return first.minus;
    }

    private int answer(boolean truth, int taken) {
      buffer[0] = truth ? '1' : '0';
      values.drop(taken);
      values.push(buffer, 0, 1);
      return 0;
    }

    /** Lets the result take the place of so many values; tells the error, or 0. */
    private int give(int taken) {
      int size = result.write(buffer, precision);
      if (size < 0) {
        return OVERFLOW;
      }
      values.drop(taken);
      values.push(buffer, 0, size);
      return 0;
    }

    void pushNumber(int number) {
      int size = number > 99 ? 3 : number > 9 ? 2 : 1;
      int left = Math.max(0, number);
      for (int i = size - 1; i >= 0; i--) {
        buffer[i] = (char) ('0' + left % 10);
        left /= 10;
      }
      values.push(buffer, 0, size);
    }

    private static boolean holds(int operator, int order) {
      switch (operator) {
        case Code.EQUAL: return order == 0;
        case Code.UNEQUAL: return order != 0;
        case Code.BELOW: return order < 0;
        case Code.ABOVE: return order > 0;
        case Code.NOT_ABOVE: return order <= 0;
        default: return order >= 0;
      }
    }

    private boolean isSame(int one, int other) {
      int size = values.sizeOf(one);
      if (size != values.sizeOf(other)) {
        return false;
      }
      for (int i = 0; i < size; i++) {
        if (values.sign(one, i) != values.sign(other, i)) {
          return false;
        }
      }
      return true;
    }

    /** Compares texts without blanks ahead and behind, the shorter one as if it had more. */
    private int compareTexts(int one, int other) {
      int oneFrom = blanksAhead(one);
      int otherFrom = blanksAhead(other);
      int most = Math.max(values.sizeOf(one), values.sizeOf(other));
      for (int i = 0; i < most; i++) {
        char sign = values.sign(one, oneFrom + i);
        char its = values.sign(other, otherFrom + i);
        if (sign != its) {
          return sign < its ? -1 : 1;
        }
      }
      return 0;
    }

    private int blanksAhead(int index) {
      int blanks = 0;
      while (blanks < values.sizeOf(index) && values.sign(index, blanks) == ' ') {
        blanks++;
      }
      return blanks;
    }

    private int arithmetic(int operator) {
      int last = values.count - 1;
      if (!read(first, last - 1) || !read(second, last)) {
        return NO_NUMBER;
      }
      int error = 0;
      switch (operator) {
        case Code.PLUS:
          add(first, second, second.minus);
          break;
        case Code.MINUS:
          add(first, second, !second.minus);
          break;
        case Code.TIMES:
          multiply(first, second, result);
          break;
        case Code.POWER:
          error = raise();
          break;
        default:
          error = second.count == 0 ? OVERFLOW : share(operator);
          break;
      }
      if (error != 0) {
        return error;
      }
      result.round(precision);
      return give(2);
    }

    /** The exact sum, the second number being below 0 as told. */
    private void add(Decimal one, Decimal other, boolean otherMinus) {
      int low = Math.min(one.power, other.power);
      int high = Math.max(one.power + one.count, other.power + other.count);
      int span = Math.min(Math.max(0, high - low), SUM_DIGITS - 1);
      boolean alike = one.minus == otherMinus;
      boolean turned = !alike && one.compareSize(other) < 0;
      Decimal greater = turned ? other : one;
      Decimal smaller = turned ? one : other;
      int carry = 0;
      for (int i = 0; i <= span; i++) {
        int its = smaller.digitOf(low + i);
        int digit = greater.digitOf(low + i) + (alike ? its : -its) + carry;
        carry = digit > 9 ? 1 : digit < 0 ? -1 : 0;
        result.digits[span - i] = digit - 10 * carry;
      }
      result.count = span + 1;
      result.power = low;
      result.minus = turned ? otherMinus : one.minus;
      result.trim();
    }

    private void multiply(Decimal one, Decimal other, Decimal product) {
      int size = one.count + other.count;
      for (int i = 0; i < size; i++) {
        product.digits[i] = 0;
      }
      for (int i = one.count - 1; i >= 0; i--) {
        int carry = 0;
        for (int k = other.count - 1; k >= 0; k--) {
          int sum = product.digits[i + k + 1] + one.digits[i] * other.digits[k] + carry;
          product.digits[i + k + 1] = sum % 10;
          carry = sum / 10;
        }
        product.digits[i] += carry;
      }
      product.count = size;
      product.power = one.power + other.power;
      product.minus = one.minus != other.minus;
      product.trim();
    }

    /**
     * The quotient, rounded. One digit more than are set tells how to round it, and digits go on
     * to the dot even where nothing is left, as the exact result has them.
     */
    private void divide(Decimal one, Decimal other) {
      result.count = 0;
      result.power = 0;
      result.minus = one.minus != other.minus && one.count > 0;
      if (one.count == 0) {
        return;
      }
      int used = begin(one, other);
      int power = one.power - other.power + one.count - used;
      int most = one.count + other.count + precision + 4;
      for (int turn = 0; turn < most && result.count <= precision
          && (used < one.count || power > 0 || isLeft(other)); turn++) {
        int digit = take(other, used < one.count ? one.digits[used] : 0);
        used++;
        power--;
        if (digit > 0 || result.count > 0) {
          result.digits[result.count] = digit;
          result.count++;
        }
      }
      result.power = power;
      result.round(precision);
      result.loseZeros();
    }

    /** The quotient, its whole part, or what is left; tells the error, or 0. */
    private int share(int operator) {
      if (operator == Code.OVER) {
        divide(first, second);
        return 0;
      }
      int ahead = first.count + first.power - second.power;
      result.count = 0;
      for (int used = begin(first, second); used < ahead; used++) {
        int digit = take(second, used < first.count ? first.digits[used] : 0);
        if (digit > 0 || result.count > 0) {
          if (result.count >= precision) {
            return NOT_WHOLE;
          }
          result.digits[result.count] = digit;
          result.count++;
        }
      }
      result.power = 0;
      result.minus = first.minus != second.minus && result.count > 0;
      if (operator == Code.LEFT) {
        multiply(result, second, wide);
        add(first, wide, !wide.minus);
      }
      return 0;
    }

    /** Begins to divide, with fewer digits than the divisor has; tells how many. */
    private int begin(Decimal one, Decimal other) {
      int used = Math.max(0, other.count - 1);
      rest[0] = 0;
      rest[1] = 0;
      for (int i = 0; i < used; i++) {
        rest[other.count + 1 - used + i] = i < one.count ? one.digits[i] : 0;
      }
      return used;
    }

    /** Takes a further digit down, and the divisor away as often as can be; tells how often. */
    private int take(Decimal other, int digit) {
      int size = other.count;
      System.arraycopy(rest, 1, rest, 0, size);
      rest[size] = digit;
      int times = 0;
      while (times < 9 && isEnough(other)) {
        int carry = 0;
        for (int i = size; i >= 0; i--) {
          int value = rest[i] - (i > 0 ? other.digits[i - 1] : 0) + carry;
          carry = value < 0 ? -1 : 0;
          rest[i] = value - 10 * carry;
        }
        times++;
      }
      return times;
    }

    private boolean isEnough(Decimal other) {
      if (rest[0] > 0) {
        return true;
      }
      for (int i = 0; i < other.count; i++) {
        if (rest[i + 1] != other.digits[i]) {
          return rest[i + 1] > other.digits[i];
        }
      }
      return true;
    }

    private boolean isLeft(Decimal other) {
      for (int i = 0; i <= other.count; i++) {
        if (rest[i] != 0) {
          return true;
        }
      }
      return false;
    }

    private int raise() {
      int exponent = second.whole();
      if (!second.isWhole() || exponent < -MOST_EXPONENT || exponent > MOST_EXPONENT) {
        return NOT_WHOLE;
      }
      if (first.count == 0 && exponent < 0) {
        return OVERFLOW;
      }
      if (first.count == 0 && exponent > 0) {
        result.copy(first);
        return 0;
      }
      int times = Math.abs(exponent);
      multiplyOften(times);
      wide.power = first.power * times;
      wide.minus = first.minus && times % 2 == 1;
      if (exponent < 0) {
        first.setOne();
        divide(first, wide);
      } else {
        wide.round(precision);
        result.copy(wide);
      }
      return 0;
    }

    /** The digits of the first number, without its power of ten, times themselves so often. */
    private void multiplyOften(int times) {
      long[] sum = row;
      long[] next = spare;
      long low = piece(0);
      long middle = piece(1);
      long high = piece(2);
      int size = 1;
      sum[0] = 1;
      for (int turn = 0; turn < times && size + 3 <= POWER_CELLS; turn++) {
        for (int i = 0; i < size + 3; i++) {
          next[i] = 0;
        }
        for (int i = 0; i < size; i++) {
          long value = next[i] + sum[i] * low;
          next[i] = value % BASE;
          value = next[i + 1] + sum[i] * middle + value / BASE;
          next[i + 1] = value % BASE;
          value = next[i + 2] + sum[i] * high + value / BASE;
          next[i + 2] = value % BASE;
          next[i + 3] += value / BASE;
        }
        size += 3;
        while (size > 1 && next[size - 1] == 0) {
          size--;
        }
        long[] free = sum;
        sum = next;
        next = free;
      }
      for (int i = 0; i < size * BASE_DIGITS; i++) {
        int cell = size - 1 - i / BASE_DIGITS;
        wide.digits[i] = digitOf(sum[cell], BASE_DIGITS - 1 - i % BASE_DIGITS);
      }
      wide.count = size * BASE_DIGITS;
      wide.trim();
    }

    /** Nine digits of the first number, counted from its end. */
    private long piece(int index) {
      long sum = 0;
      for (int i = BASE_DIGITS - 1; i >= 0; i--) {
        int place = first.count - 1 - index * BASE_DIGITS - i;
        sum = 10 * sum + (place >= 0 ? first.digits[place] : 0);
      }
      return sum;
    }

    private static int digitOf(long cell, int place) {
      long left = cell;
      for (int i = 0; i < place; i++) {
        left /= 10;
      }
      return (int) (left % 10);
    }

    /** Lets the value of a function take the place of its arguments; tells the error, or 0. */
    int function(int function, int arguments) {
      if (function < 0 || function >= ARGUMENTS.length || arguments != ARGUMENTS[function]) {
        return BAD_ARGUMENT;
      }
      int from = values.count - arguments;
      switch (function) {
        case LENGTH: return count(from, values.sizeOf(from));
        case WORDS: return count(from, wordsOf(from));
        case WORD: return word(from, whole(from + 1, 1));
        case SUBSTR: return cut(from, whole(from + 1, 1), whole(from + 2, 0));
        case COPIES: return copies(from, whole(from + 1, 0));
        case POS: return count(from, place(from, from + 1));
        case ABS: return absolute(from);
        default: return choose(from, function == MAX);
      }
    }

    private int count(int from, int number) {
      values.truncate(from);
      pushNumber(number);
      return 0;
    }

    int wordsOf(int index) {
      int words = 0;
      for (int i = 0; i < values.sizeOf(index); i++) {
        if (isWordBegin(index, i)) {
          words++;
        }
      }
      return words;
    }

    private boolean isWordBegin(int index, int place) {
      return values.sign(index, place) != ' '
          && (place == 0 || values.sign(index, place - 1) == ' ');
    }

    private int word(int from, int wanted) {
      if (wanted < 0) {
        return BAD_ARGUMENT;
      }
      int size = values.sizeOf(from);
      int begin = size;
      int seen = 0;
      for (int i = 0; i < size && seen < wanted; i++) {
        if (isWordBegin(from, i)) {
          seen++;
          begin = seen == wanted ? i : size;
        }
      }
      int end = begin;
      while (end < size && values.sign(from, end) != ' ') {
        end++;
      }
      values.keep(from, begin, from, end - begin);
      return 0;
    }

    private int cut(int from, int begin, int size) {
      if (begin < 0 || size < 0) {
        return BAD_ARGUMENT;
      }
      if (size > MOST_TEXT) {
        return TOO_LONG;
      }
      for (int i = 0; i < size; i++) {
        buffer[i] = values.sign(from, begin - 1 + i);
      }
      values.truncate(from);
      values.push(buffer, 0, size);
      return 0;
    }

    private int copies(int from, int number) {
      if (number < 0) {
        return BAD_ARGUMENT;
      }
      int size = values.sizeOf(from);
      if ((long) number * size > MOST_TEXT) {
        return TOO_LONG;
      }
      int total = number * size;
      for (int i = 0; i < total && size > 0; i++) {
        buffer[i] = values.sign(from, i % size);
      }
      values.truncate(from);
      values.push(buffer, 0, total);
      return 0;
    }

    /** The place of one value in another, from 1; 0 for none. */
    private int place(int one, int other) {
      int size = values.sizeOf(one);
      for (int begin = 0; begin + size <= values.sizeOf(other); begin++) {
        int same = 0;
        while (same < size && values.sign(one, same) == values.sign(other, begin + same)) {
          same++;
        }
        if (same == size) {
          return begin + 1;
        }
      }
      return 0;
    }

    private int absolute(int from) {
      if (!result.read(values.signs, values.fromOf(from), values.sizeOf(from), precision)) {
        return BAD_ARGUMENT;
      }
      result.minus = false;
      return give(1);
    }

    private int choose(int from, boolean greater) {
      int next = from + 1;
      if (!first.read(values.signs, values.fromOf(from), values.sizeOf(from), precision)
          || !second.read(values.signs, values.fromOf(next), values.sizeOf(next), precision)) {
        return BAD_ARGUMENT;
      }
      int order = first.compare(second);
      boolean isSecond = greater ? order < 0 : order > 0;
      result.copy(isSecond ? second : first);
      return give(2);
    }
  }

  /** Parses texts by templates, whose parts are met one by one. */
  private static final class Templates {
    private final Code code;
    private final Values values;
    private final Variables variables;
    /** Where the names stand among which the next piece is shared. */
    private int names;
    // the values that are parsed, and how many values there are behind the template
    private int first;
    private int number;
    private int base;
    // the one that is parsed now: -1 for an empty text
    private int source;
    private int length;
    // where the last part began, and where what it parts begins
    private int lastBegin;
    private int from;

    Templates(Code code, Values values, Variables variables) {
      this.code = code;
      this.values = values;
      this.variables = variables;
    }

    /** Begins a template that stands in the code, for a number of values from one on. */
    void begin(int template, int value, int texts, int valuesBehind) {
      names = template;
      first = value;
      number = texts;
      base = valuesBehind;
      open(first);
    }

    private void open(int value) {
      source = value < first + number ? value : -1;
      length = values.sizeOf(source);
      lastBegin = 0;
      from = 0;
    }

    /** Does what stands at a cell of the template; tells the error, or 0. */
    int meet(int at) {
      int item = code.cell(at);
      if (item == Code.INTO || item == Code.SKIP) {
        return 0;
      }
      int begin = from;
      int end = item == Code.FOUND ? find(at)
          : item == Code.NEXT_TEXT || item == Code.LAST ? length : moveTo(at);
      int error = end < 0 ? Reckoner.NOT_WHOLE : share(at, begin, end);
      names = at + 3;
      if (item == Code.NEXT_TEXT) {
        first++;
        number--;
        open(first);
      } else if (item == Code.LAST) {
        values.truncate(base);
      }
      return error;
    }

    /** Goes to where a text is found, or to the end; tells where what is parted ends. */
    private int find(int item) {
      int sought = code.cell(item + 1);
      int size = code.cell(item + 2);
      for (int begin = from; begin + size <= length; begin++) {
        int same = 0;
        while (same < size && values.sign(source, begin + same) == code.text[sought + same]) {
          same++;
        }
        if (same == size) {
          return part(begin, begin + size);
        }
      }
      return part(length, length);
    }

    /** Goes to a place; tells where what is parted ends, or -1 if the place is not whole. */
    private int moveTo(int item) {
      int number = placeOf(code.cell(item + 1), code.cell(item + 2));
      if (number < 0) {
        return -1;
      }
      int kind = code.cell(item);
      int place = kind == Code.PLACE ? number - 1
          : kind == Code.FURTHER ? lastBegin + number : lastBegin - number;
      place = Math.max(0, Math.min(place, length));
      return part(place, place);
    }

    /** Goes behind a part; tells where what is ahead of it ends, as the part may not be further. */
    private int part(int begin, int behind) {
      int end = begin > from ? begin : length;
      lastBegin = begin;
      from = behind;
      return end;
    }

    /** A number of a template, kept within what no text reaches; -1 if it is not whole. */
    private int placeOf(int begin, int size) {
      int number = 0;
      boolean dot = false;
      for (int i = begin; i < begin + size; i++) {
        char sign = code.text[i];
        if (sign == '.') {
          dot = true;
        } else if (!dot) {
          number = Math.min(10 * number + sign - '0', 10 * MOST_TEXT);
        } else if (sign != '0') {
          return -1;
        }
      }
      return number;
    }

    /** Shares a piece of the text among names: a word to each, all that is left to the last. */
    private int share(int behindNames, int begin, int end) {
      int at = begin;
      for (int name = names; name < behindNames; name += 3) {
        int stop = end;
        int start = at;
        if (name + 3 < behindNames) {
          while (start < end && values.sign(source, start) == ' ') {
            start++;
          }
          stop = start;
          while (stop < end && values.sign(source, stop) != ' ') {
            stop++;
          }
          at = Math.min(stop + 1, end);
        }
        if (code.cell(name) == Code.INTO) {
          variables.locate(code.text, code.cell(name + 1), code.cell(name + 2));
          if (variables.isTooLong()) {
            return Reckoner.TOO_LONG;
          }
          variables.put(values.signs, values.fromOf(source) + start, stop - start);
        }
      }
      return 0;
    }
  }

  /** The calls and interprets that are under way, and the blocks in them. */
  private static final class Calls {
    static final int MAIN = 0;
    static final int CALLED = 1;
    static final int INTERPRETED = 2;
    // what is known of each, the innermost being the last
    static final int KIND = 0;
    static final int BACK_TO = 1;
    static final int BACK_LINE = 2;
    static final int FIRST_ARGUMENT = 3;
    static final int ARGUMENTS = 4;
    static final int FIRST_BLOCK = 5;
    static final int LEVEL = 6;
    static final int CODE_TOP = 7;
    static final int TEXT_TOP = 8;
    static final int IS_FRESH = 9;
    static final int IS_CLAUSE = 10;
    private static final int FRAME = 11;
    // kinds of blocks
    static final int CHOICE = 0;
    static final int ONCE = 1;
    static final int ENDLESS = 2;
    static final int COUNTED = 3;
    static final int NAMED = 4;
    // what is known of each block
    static final int BLOCK_KIND = 0;
    static final int BEGIN = 1;
    static final int END = 2;
    static final int ELSE = 3;
    static final int BASE = 4;
    static final int LOOP = 5;
    static final int IS_AGAIN = 6;
    static final int LEFT = 7;
    static final int HAS_LIMIT = 8;
    private static final int BLOCK = 9;

    private final int[] frames;
    private int count;
    private int called;
    private int[] blocks;
    private int blockCount;
    /** How many calls were under way as each condition was told on; -1 if it is off. */
    private final int[] toldOn;

    Calls() {
      frames = new int[(MOST_UNDER_WAY + 1) * FRAME];
      blocks = new int[32 * BLOCK];
      toldOn = new int[2];
    }

    void reset(int arguments) {
      count = 0;
      called = 0;
      blockCount = 0;
      toldOn[0] = -1;
      toldOn[1] = -1;
      begin(MAIN, 0, arguments);
    }

    boolean isFull() {
      return count > MOST_UNDER_WAY;
    }

    void begin(int kind, int firstArgument, int arguments) {
      if (isFull()) {
        return;
      }
      count++;
      called += kind == CALLED ? 1 : 0;
      set(KIND, kind);
      set(FIRST_ARGUMENT, firstArgument);
      set(ARGUMENTS, arguments);
      set(FIRST_BLOCK, blockCount);
      set(IS_FRESH, kind == CALLED ? 1 : 0);
    }

    /** Ends the innermost one; what was told on in it counts as told on by its caller. */
    void finish() {
      if (count < 1) {
        return;
      }
      count--;
      blockCount = frames[count * FRAME + FIRST_BLOCK];
      called -= frames[count * FRAME + KIND] == CALLED ? 1 : 0;
      toldOn[0] = Math.min(toldOn[0], called);
      toldOn[1] = Math.min(toldOn[1], called);
    }

    int get(int what) {
      return count > 0 ? frames[(count - 1) * FRAME + what] : 0;
    }

    void set(int what, int value) {
      if (count > 0) {
        frames[(count - 1) * FRAME + what] = value;
      }
    }

    /** Whether a block is under way in the innermost call. */
    boolean hasBlock() {
      return blockCount > get(FIRST_BLOCK);
    }

    void beginBlock(int kind, int begin, int end, int otherwise, int base) {
      if ((blockCount + 1) * BLOCK > blocks.length) {
        blocks = moreCells(blocks, (blockCount + 1) * BLOCK);
      }
      blockCount++;
      setBlock(BLOCK_KIND, kind);
      setBlock(BEGIN, begin);
      setBlock(END, end);
      setBlock(ELSE, otherwise);
      setBlock(BASE, base);
      setBlock(IS_AGAIN, 0);
    }

    int block(int what) {
      return blockCount > 0 ? blocks[(blockCount - 1) * BLOCK + what] : 0;
    }

    void setBlock(int what, int value) {
      if (blockCount > 0) {
        blocks[(blockCount - 1) * BLOCK + what] = value;
      }
    }

    boolean isLoop() {
      return block(BLOCK_KIND) >= ENDLESS;
    }

    /** Whether there is a 'do' in the innermost call that is done again. */
    boolean hasLoop() {
      for (int i = blockCount - 1; i >= get(FIRST_BLOCK); i--) {
        if (blocks[i * BLOCK + BLOCK_KIND] >= ENDLESS) {
          return true;
        }
      }
      return false;
    }
  }

  /** Runs a program clause by clause. */
  private static final class Machine {
    static final char ENDED = 'd';
    static final char FAILED = 'x';
    static final char OVER = 'l';
    private static final char RUNNING = 'r';
    private static final int MOST_TURNS = 1000000;
    // errors, besides those of Reckoner, and what novalue is told by
    private static final int NO_BLOCK = 10;
    private static final int NO_LABEL = 16;
    private static final int NO_BEGIN = 17;
    private static final int NO_CLAUSE = 20;
    private static final int NO_LOOP = 28;
    private static final int NO_FUNCTION = 43;
    private static final int NO_RESULT = 44;
    private static final int NOVALUE = -1;

    private final Code code;
    private final Compiler compiler;
    private final Values values;
    private final Variables variables;
    private final Reckoner reckoner;
    private final Templates templates;
    private final Calls calls;
    private final Texts spoken;
    private final Texts kept;
    private final Texts waiting;
    private final Texts environment;
    private final int[] times;
    private int interpreted;
    private int made;
    private int most;
    private char outcome;
    private int failure;
    /** The error of the clause that is done, or NOVALUE; 0 for none. */
    private int fault;
    private int now;
    private int pc;

    Machine() {
      code = new Code();
      compiler = new Compiler(code);
      values = new Values();
      variables = new Variables(code);
      reckoner = new Reckoner(values);
      templates = new Templates(code, values, variables);
      calls = new Calls();
      spoken = new Texts(64, 512);
      kept = new Texts(MOST_COMMANDS, 128);
      waiting = new Texts(MOST_WAITING, 128);
      environment = new Texts(1, 64);
      times = new int[MOST_LINES];
    }

    void prepare(Texts lines, Texts arguments, int steps) {
      begin(arguments.count, FIRST_DIGITS);
      most = steps;
      for (int i = 0; i < arguments.count; i++) {
        values.push(arguments.signs, arguments.froms[i], arguments.sizes[i]);
      }
      for (int i = 0; i < lines.count; i++) {
        int from = code.addText(lines.signs, lines.froms[i], lines.sizes[i]);
        int clause = compiler.recognise(from, lines.sizes[i]);
        int start = code.top;
        if (!compiler.build(clause)) {
          clause = Compiler.BAD;
          code.top = start;
        }
        code.put(Code.NEXT);
        code.addLine(clause, start);
      }
      enter(0);
    }

    void prepareExpression(char[] text, int size, int digits) {
      begin(0, digits);
      compiler.recognise(code.addText(text, 0, size), size);
      pc = code.top;
      if (!compiler.buildExpression()) {
        fault = NO_CLAUSE;
      }
    }

    private void begin(int arguments, int digits) {
      code.reset();
      values.empty();
      variables.reset();
      calls.reset(arguments);
      reckoner.precision = digits;
      spoken.empty();
      kept.empty();
      waiting.empty();
      setEnvironment(Code.HOST, Code.HOST_SIZE);
      for (int i = 0; i < times.length; i++) {
        times[i] = 0;
      }
      interpreted = 0;
      made = 0;
      most = 0;
      outcome = RUNNING;
      failure = 0;
      fault = 0;
      now = 0;
      pc = 0;
    }

    void go() {
      for (int turn = 0; turn < MOST_TURNS && outcome == RUNNING; turn++) {
        int operation = code.cell(pc);
        if (fault != 0) {
          settle();
        } else {
          pc++;
          if (operation <= Code.OR) {
            fault = reckoner.binary(operation);
          } else if (operation <= Code.NOT) {
            fault = reckoner.prefix(operation);
          } else if (operation <= Code.VALUE) {
            operand(operation, take(), take());
          } else if (operation == Code.CALL) {
            call(take(), take());
          } else if (operation == Code.AGAIN) {
            again();
          } else if (operation < Code.RETURN) {
            walk(operation);
          } else if (operation == Code.INTERPRET) {
            interpret();
          } else if (operation >= Code.INTO) {
            fault = templates.meet(pc - 1);
            pc += 2;
          } else {
            perform(operation);
          }
        }
      }
      if (outcome == RUNNING) {
        outcome = OVER;
      }
    }

    /** Whether steps are those of all lines and of what was interpreted. */
    boolean stepsAddUp() {
      int sum = interpreted;
      for (int i = 0; i < times.length; i++) {
        sum += times[i];
      }
      return sum == made;
    }

    /** The next cell, which belongs to the operation that is done. */
    private int take() {
      int cell = code.cell(pc);
      pc++;
      return cell;
    }

    private void stop(char how, int error) {
      outcome = how;
      failure = error;
    }

    /** Counts a step, if a further one may be made; else the run is over. */
    private boolean makeStep() {
      if (made >= most) {
        stop(OVER, 0);
        return false;
      }
      made++;
      return true;
    }

    /** Goes to the first clause that is a step, from a line on. */
    private void enter(int line) {
      int next = line;
      while (next < code.lines && code.kinds[next] <= Compiler.LABEL) {
        next++;
      }
      if (next >= code.lines) {
        stop(ENDED, 0);
        return;
      }
      now = next;
      if (!makeStep()) {
        return;
      }
      times[next]++;
      if (code.kinds[next] != Compiler.PROCEDURE) {
        calls.set(Calls.IS_FRESH, 0);
      }
      if (code.kinds[next] == Compiler.BAD) {
        fault = NO_CLAUSE;
      }
      pc = code.starts[next];
    }

    /** Lets a condition go to its label, or the run end. */
    private void settle() {
      boolean novalue = fault == NOVALUE;
      int told = calls.toldOn[novalue ? 1 : 0];
      if (told < 0) {
        stop(FAILED, fault);
        return;
      }
      calls.toldOn[novalue ? 1 : 0] = -1;
      int label = novalue ? code.label(Code.NOVALUE, Code.NOVALUE_SIZE)
          : code.label(Code.SYNTAX, Code.SYNTAX_SIZE);
      if (label < 0) {
        stop(FAILED, NO_LABEL);
        return;
      }
      fault = 0;
      for (int i = calls.count; i > 1 && calls.called > told; i--) {
        leaveFrame();
      }
      jump(label);
    }

    /** Goes to a label, which ends all that is under way in the innermost call. */
    private void jump(int label) {
      leaveInterprets();
      calls.blockCount = calls.get(Calls.FIRST_BLOCK);
      values.truncate(calls.get(Calls.FIRST_ARGUMENT) + calls.get(Calls.ARGUMENTS));
      enter(label);
    }

    /** Leaves what is interpreted in the innermost call. */
    private void leaveInterprets() {
      for (int i = calls.count; i > 1 && calls.get(Calls.KIND) == Calls.INTERPRETED; i--) {
        leaveFrame();
      }
    }

    private void leaveFrame() {
      pc = calls.get(Calls.BACK_TO);
      now = calls.get(Calls.BACK_LINE);
      variables.level = calls.get(Calls.LEVEL);
      code.top = calls.get(Calls.CODE_TOP);
      code.textTop = calls.get(Calls.TEXT_TOP);
      calls.finish();
    }

    private void enterFrame(int kind, int firstArgument, int arguments) {
      calls.begin(kind, firstArgument, arguments);
      calls.set(Calls.BACK_TO, pc);
      calls.set(Calls.BACK_LINE, now);
      calls.set(Calls.LEVEL, variables.level);
      calls.set(Calls.CODE_TOP, code.top);
      calls.set(Calls.TEXT_TOP, code.textTop);
    }

    private void operand(int operation, int from, int size) {
      if (operation == Code.LITERAL) {
        values.push(code.text, from, size);
      } else {
        boolean isSet = variables.ask(code.text, from, size);
        boolean isStem = size > 0 && code.text[from + size - 1] == '.' && !variables.element;
        if (variables.isTooLong()) {
          fault = Reckoner.TOO_LONG;
        } else if (!isSet && !isStem && calls.toldOn[1] >= 0) {
          fault = NOVALUE;
        } else if (variables.foundSize > MOST_TEXT) {
          fault = Reckoner.TOO_LONG;
        } else {
          values.push(variables.found, 0, variables.foundSize);
        }
      }
    }

    private void call(int from, int size) {
      int arguments = take();
      int function = take();
      int isClause = take();
      int label = code.label(from, size);
      if (label >= 0) {
        if (calls.isFull()) {
          fault = Reckoner.TOO_LONG;
          return;
        }
        enterFrame(Calls.CALLED, values.count - arguments, arguments);
        calls.set(Calls.IS_CLAUSE, isClause);
        enter(label);
      } else if (function < 0) {
        fault = NO_FUNCTION;
      } else {
        fault = reckoner.function(function, arguments);
        if (fault == 0 && isClause == 1) {
          assign(Code.RESULT, Code.RESULT_SIZE);
        }
      }
    }

    /** Sets a variable to the last value, which is taken away. */
    private void assign(int from, int size) {
      variables.locate(code.text, from, size);
      if (variables.isTooLong()) {
        fault = Reckoner.TOO_LONG;
      } else {
        int last = values.count - 1;
        variables.put(values.signs, values.fromOf(last), values.sizeOf(last));
      }
      values.drop(1);
    }

    /** Goes on with the way: from clause to clause, and through blocks. */
    private void walk(int operation) {
      switch (operation) {
        case Code.NEXT:
          if (calls.get(Calls.KIND) == Calls.INTERPRETED) {
            leaveFrame();
          } else {
            enter(now + 1);
          }
          break;
        case Code.BLOCK:
          beginBlock(take());
          break;
        case Code.IF:
          choose();
          break;
        case Code.ELSE:
          if (!calls.hasBlock() || calls.block(Calls.BLOCK_KIND) != Calls.CHOICE) {
            fault = NO_BLOCK;
          } else {
            leaveBlock();
          }
          break;
        case Code.DO:
          calls.setBlock(Calls.BLOCK_KIND, take());
          calls.setBlock(Calls.LOOP, pc);
          break;
        case Code.COUNT:
          beginCount();
          break;
        case Code.AMOUNT:
          fault = reckoner.asAmount();
          break;
        case Code.NAMED:
          beginNamed(take(), take());
          break;
        case Code.TRY:
          tryNext(take(), take());
          break;
        case Code.WHILE:
          goOnWhile();
          break;
        case Code.ENTER:
          enterLoop();
          break;
        case Code.END:
          endBlock();
          break;
        case Code.LEAVE:
        case Code.ITERATE:
          goOut(operation == Code.LEAVE);
          break;
        default:
          stop(ENDED, 0);
          break;
      }
    }

    /** Begins a block, whose end, and 'else', are looked for first. */
    private void beginBlock(int kind) {
      int otherwise = -1;
      int open = 1;
      int line = now;
      while (open > 0 && line + 1 < code.lines) {
        line++;
        int clause = code.kinds[line];
        if (clause == Compiler.IF || clause == Compiler.DO) {
          open++;
        } else if (clause == Compiler.END) {
          open--;
        } else if (clause == Compiler.ELSE && open == 1 && otherwise < 0) {
          otherwise = line;
        }
      }
      if (open > 0) {
        fault = NO_BLOCK;
      } else {
        calls.beginBlock(kind, now, line, otherwise, values.count);
      }
    }

    /** Goes behind the end of the innermost block. */
    private void leaveBlock() {
      int end = calls.block(Calls.END);
      dropBlock();
      enter(end + 1);
    }

    private void dropBlock() {
      values.truncate(calls.block(Calls.BASE));
      calls.blockCount--;
    }

    private void choose() {
      int truth = reckoner.truth(values.count - 1);
      values.drop(1);
      if (truth < 0) {
        fault = Reckoner.NOT_TRUTH;
      } else if (truth == 1) {
        enter(now + 1);
      } else if (calls.block(Calls.ELSE) >= 0) {
        enter(calls.block(Calls.ELSE) + 1);
      } else {
        leaveBlock();
      }
    }

    private void beginCount() {
      int number = reckoner.whole(values.count - 1, 0);
      values.drop(1);
      calls.setBlock(Calls.BLOCK_KIND, Calls.COUNTED);
      calls.setBlock(Calls.LOOP, pc);
      calls.setBlock(Calls.LEFT, number);
      if (number < 0) {
        fault = Reckoner.NOT_WHOLE;
      } else if (number == 0) {
        leaveBlock();
      }
    }

    /** The values are there: the first one of the name, perhaps the limit, perhaps the step. */
    private void beginNamed(int hasLimit, int hasStep) {
      calls.setBlock(Calls.BLOCK_KIND, Calls.NAMED);
      calls.setBlock(Calls.LOOP, pc);
      // the operator that stands here is for further times
      pc++;
      calls.setBlock(Calls.HAS_LIMIT, hasLimit);
      if (hasStep == 0) {
        values.push(code.text, Code.ONE, Code.ONE_SIZE);
      }
      int first = calls.block(Calls.BASE);
      values.push(values.signs, values.fromOf(first), values.sizeOf(first));
    }

    /** Sets the name to the last value, and leaves the block if that is beyond the limit. */
    private void tryNext(int from, int size) {
      int base = calls.block(Calls.BASE);
      boolean isBeyond = false;
      if (calls.block(Calls.HAS_LIMIT) == 1) {
        int order = reckoner.compareNumbers(values.count - 1, base + 1);
        isBeyond = reckoner.isBelowZero(base + 2) ? order < 0 : order > 0;
      }
      assign(from, size);
      if (fault == 0 && isBeyond) {
        leaveBlock();
      }
    }

    private void goOnWhile() {
      int truth = reckoner.truth(values.count - 1);
      values.drop(1);
      if (truth < 0) {
        fault = Reckoner.NOT_TRUTH;
      } else if (truth == 0) {
        leaveBlock();
      }
    }

    /** Goes to the first line in a 'do', which is a step again if it was done before. */
    private void enterLoop() {
      if (calls.block(Calls.IS_AGAIN) == 1) {
        if (!makeStep()) {
          return;
        }
        times[now]++;
      }
      calls.setBlock(Calls.IS_AGAIN, 1);
      enter(now + 1);
    }

    /** Looks whether the innermost 'do' is done once more. */
    private void again() {
      now = calls.block(Calls.BEGIN);
      pc = calls.block(Calls.LOOP);
      int kind = calls.block(Calls.BLOCK_KIND);
      if (kind == Calls.NAMED) {
        variables.locate(code.text, code.cell(pc + 2), code.cell(pc + 3));
        goUp(calls.block(Calls.BASE) + 1 + calls.block(Calls.HAS_LIMIT));
      } else if (kind == Calls.COUNTED) {
        int left = calls.block(Calls.LEFT) - 1;
        calls.setBlock(Calls.LEFT, left);
        if (left == 0) {
          leaveBlock();
        }
      }
    }

    /** Lets the step, which is one of the values, be added to what the name of a 'do' has now. */
    private void goUp(int step) {
      variables.look();
      if (variables.isTooLong() || variables.foundSize > MOST_TEXT) {
        fault = Reckoner.TOO_LONG;
        return;
      }
      values.push(variables.found, 0, variables.foundSize);
      if (!reckoner.isNumber(values.count - 1)) {
        fault = Reckoner.NOT_WHOLE;
      }
      values.push(values.signs, values.fromOf(step), values.sizeOf(step));
    }

    private void endBlock() {
      if (!calls.hasBlock()) {
        fault = NO_BLOCK;
      } else if (calls.isLoop()) {
        pc = 0;
      } else {
        dropBlock();
        enter(now + 1);
      }
    }

    /** Leaves the innermost 'do' that is done again, or goes to its next time. */
    private void goOut(boolean leave) {
      if (!calls.hasLoop()) {
        fault = NO_LOOP;
        return;
      }
      for (int i = calls.blockCount; i > 0 && !calls.isLoop(); i--) {
        dropBlock();
      }
      if (leave) {
        leaveBlock();
      } else {
        pc = 0;
      }
    }

    /** Does a text as one clause, whose code is forgotten behind it. */
    private void interpret() {
      int last = values.count - 1;
      if (calls.isFull()) {
        fault = Reckoner.TOO_LONG;
        return;
      }
      int codeTop = code.top;
      int textTop = code.textTop;
      int size = values.sizeOf(last);
      int clause = compiler.recognise(code.addText(values.signs, values.fromOf(last), size), size);
      values.drop(1);
      if (clause != Compiler.EMPTY && clause != Compiler.LABEL) {
        if (!makeStep()) {
          return;
        }
        interpreted++;
      }
      boolean may = clause < Compiler.IF && clause != Compiler.LABEL || clause > Compiler.PROCEDURE;
      if (!may || !compiler.build(clause)) {
        code.top = codeTop;
        code.textTop = textTop;
        fault = NO_CLAUSE;
        return;
      }
      code.put(Code.NEXT);
      enterFrame(Calls.INTERPRETED, calls.get(Calls.FIRST_ARGUMENT), calls.get(Calls.ARGUMENTS));
      calls.set(Calls.CODE_TOP, codeTop);
      calls.set(Calls.TEXT_TOP, textTop);
      pc = codeTop;
    }

    private void perform(int operation) {
      int last = values.count - 1;
      switch (operation) {
        case Code.RETURN:
          giveBack(take() == 1);
          break;
        case Code.PROCEDURE:
          beginVariables();
          break;
        case Code.SIGNAL:
          signal(take(), take());
          break;
        case Code.CONDITION:
          tell(take(), take() == 1);
          break;
        case Code.SET:
          assign(take(), take());
          break;
        case Code.SAY:
          spoken.add(values.signs, values.fromOf(last), values.sizeOf(last));
          values.drop(1);
          break;
        case Code.COMMAND:
          command(last);
          break;
        case Code.DIGITS:
          setDigits(reckoner.whole(last, 1));
          break;
        case Code.PUSH:
        case Code.QUEUE:
          await(last, operation == Code.PUSH);
          break;
        case Code.PULL:
          pull();
          break;
        case Code.ADDRESS:
          setEnvironment(take(), take());
          break;
        case Code.DROP:
          dropVariables(take());
          break;
        case Code.PARSE_ARG:
          templates.begin(pc, calls.get(Calls.FIRST_ARGUMENT), calls.get(Calls.ARGUMENTS),
              values.count);
          break;
        case Code.PARSE_VAR:
          parseVariable(take(), take());
          break;
        case Code.PARSE_VALUE:
          templates.begin(pc, last, 1, last);
          break;
        default:
          stop(ENDED, 0);
          break;
      }
    }

    /** Ends the innermost call, with a value or without one. */
    private void giveBack(boolean isValue) {
      leaveInterprets();
      if (calls.get(Calls.KIND) == Calls.MAIN) {
        stop(ENDED, 0);
        return;
      }
      boolean isClause = calls.get(Calls.IS_CLAUSE) == 1;
      int first = calls.get(Calls.FIRST_ARGUMENT);
      if (isValue) {
        int last = values.count - 1;
        values.keep(first, 0, last, values.sizeOf(last));
      } else {
        values.truncate(first);
      }
      leaveFrame();
      if (!isClause) {
        fault = isValue ? 0 : NO_RESULT;
      } else if (isValue) {
        assign(Code.RESULT, Code.RESULT_SIZE);
      } else {
        variables.locate(code.text, Code.RESULT, Code.RESULT_SIZE);
        variables.drop();
      }
    }

    private void beginVariables() {
      if (calls.get(Calls.IS_FRESH) != 1) {
        fault = NO_BEGIN;
        return;
      }
      calls.set(Calls.IS_FRESH, 0);
      int names = pc;
      pc += 1 + 2 * code.cell(names);
      variables.begin(names);
    }

    private void signal(int from, int size) {
      int label = code.label(from, size);
      if (label < 0) {
        fault = NO_LABEL;
      } else {
        jump(label);
      }
    }

    /** Lets a condition be on or off from now on. */
    private void tell(int condition, boolean on) {
      calls.toldOn[condition == 1 ? 1 : 0] = on ? calls.called : -1;
    }

    private void command(int last) {
      if (kept.count < MOST_COMMANDS) {
        kept.add(environment.signs, 0, environment.top);
        kept.extend(values.signs, values.fromOf(last), values.sizeOf(last));
      }
      int words = reckoner.wordsOf(last);
      values.drop(1);
      reckoner.pushNumber(words);
      assign(Code.RC, Code.RC_SIZE);
    }

    /** The environment is kept with the blank that stands behind it in commands. */
    private void setEnvironment(int from, int size) {
      environment.empty();
      environment.add(code.text, from, size);
      environment.extend(code.text, Code.BLANK, 1);
    }

    private void setDigits(int number) {
      values.drop(1);
      if (number < 0 || number > MOST_DIGITS) {
        fault = Reckoner.NOT_WHOLE;
      } else {
        reckoner.precision = number;
      }
    }

    /** Lets the last value wait, if not too many do. */
    private void await(int last, boolean first) {
      if (waiting.count < MOST_WAITING) {
        if (first) {
          waiting.addFirst(values.signs, values.fromOf(last), values.sizeOf(last));
        } else {
          waiting.add(values.signs, values.fromOf(last), values.sizeOf(last));
        }
      }
      values.drop(1);
    }

    private void pull() {
      if (waiting.count > 0) {
        values.push(waiting.signs, waiting.froms[0], waiting.sizes[0]);
        waiting.removeFirst();
      } else {
        values.push(code.text, 0, 0);
      }
      assign(take(), take());
    }

    private void dropVariables(int number) {
      for (int i = 0; i < number && fault == 0; i++) {
        variables.locate(code.text, take(), take());
        if (variables.isTooLong()) {
          fault = Reckoner.TOO_LONG;
        } else {
          variables.drop();
        }
      }
    }

    private void parseVariable(int from, int size) {
      variables.ask(code.text, from, size);
      if (variables.isTooLong() || variables.foundSize > MOST_TEXT) {
        fault = Reckoner.TOO_LONG;
        return;
      }
      values.push(variables.found, 0, variables.foundSize);
      templates.begin(pc, values.count - 1, 1, values.count - 1);
    }
  }
}
