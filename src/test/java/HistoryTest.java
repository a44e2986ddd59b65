import java.util.ArrayList;
import java.util.List;
import java.util.Random;

/**
 * Makes random calls on one machine, as many as it is used for, and compares each answer with
 * that of a twin, which was made anew and has done no more than the last run: nothing that was
 * done before, or that was refused, may be seen.
 */
public final class HistoryTest extends Asking {
  private static final int MOST_CALLS = 512;
  private static final String SIGNS = "abcdefghijklmnopqrstuvwxyz0123456789 .,=+-*/%&|~<>()':";

  private interface Question {
    Object ask(Rexworth x);
  }

  private final long seed;
  private final Random random;
  private final Maker maker;
  private final Rexworth used = new Rexworth();
  private Rexworth twin = new Rexworth();
  private int calls = 0;
  private String typed = "";
  private final List<String> lines = new ArrayList<>();
  private final List<String> arguments = new ArrayList<>();

  private HistoryTest(long seed) {
    this.seed = seed;
    random = new Random(seed);
    maker = new Maker(random);
  }

  public static void main(String[] args) {
    int rounds = args.length > 0 ? Integer.parseInt(args[0]) : 1500;
    long seed = args.length > 1 ? Long.parseLong(args[1]) : 1;
    for (int i = 0; i < rounds; i++) {
      new HistoryTest(seed * 1000003L + i).live();
    }
    finish();
  }

  private void live() {
    while (calls < MOST_CALLS) {
      switch (random.nextInt(12)) {
        case 0:
          program();
          break;
        case 1:
          write(maker.longClause());
          line();
          break;
        case 2:
          write(maker.plainText());
          argument();
          break;
        case 3:
        case 4:
        case 5:
          run(random.nextInt(10) == 0 ? random.nextInt(3) * 1000 : 1 + random.nextInt(100));
          break;
        case 6:
          write(random.nextInt(3) == 0 ? Maker.fit(maker.expression(2), 60) : word());
          reckon();
          askVariable();
          break;
        case 7:
          handle();
          break;
        default:
          ask();
          break;
      }
    }
  }

  private void call(String what, Object want, Call call) {
    calls++;
    if (calls <= MOST_CALLS) {
      due(what + ", the call " + calls + " of the seed " + seed, asked(call), "" + want);
    }
  }

  /** The same question to both. */
  private void alike(String what, Question question) {
    call(what, asked(() -> question.ask(twin)), () -> question.ask(used));
  }

  // ---- typing

  private void write(String text) {
    if (random.nextInt(20) != 0) {
      wipe();
    }
    for (char sign : text.toCharArray()) {
      type(sign);
      if (random.nextInt(100) == 0) {
        type((char) random.nextInt(300));
      }
    }
  }

  private void type(char sign) {
    if (calls >= MOST_CALLS) {
      return;
    }
    boolean isSign = SIGNS.indexOf(sign) >= 0;
    String want = !isSign ? "IllegalArgumentException"
        : typed.length() == 60 ? "IllegalStateException" : "" + (typed.length() + 1);
    call("type " + (int) sign, want, () -> used.type(sign));
    typed += isSign && typed.length() < 60 ? "" + sign : "";
  }

  private void wipe() {
    call("wipe", typed.length(), used::wipe);
    typed = "";
  }

  private void line() {
    call("line", lines.size() == 40 ? "IllegalStateException" : lines.size(), used::line);
    if (lines.size() < 40) {
      lines.add(typed);
      typed = "";
    }
  }

  private void argument() {
    call("argument", arguments.size() == 4 ? "IllegalStateException" : arguments.size() + 1,
        used::argument);
    if (arguments.size() < 4) {
      arguments.add(typed);
      typed = "";
    }
  }

  /** A program of few signs, so that there are calls left for more. */
  private void program() {
    clear();
    List<String> made = maker.program();
    while (String.join("", made).length() > 120) {
      made.remove(random.nextInt(made.size()));
    }
    for (String text : made) {
      write(text);
      line();
    }
    run(1 + random.nextInt(2000));
  }

  private void clear() {
    call("clear", lines.size(), used::clear);
    lines.clear();
  }

  private void handle() {
    switch (random.nextInt(6)) {
      case 0:
        clear();
        break;
      case 1:
        call("bare", arguments.size(), used::bare);
        arguments.clear();
        break;
      case 2:
        wipe();
        break;
      case 3:
        int empty = random.nextInt(42);
        for (int i = 0; i < empty; i++) {
          line();
        }
        break;
      case 4:
        argument();
        break;
      default:
        int line = random.nextInt(lines.size() + 3) - 1;
        int place = random.nextInt(20) - 1;
        call("at " + line + " " + place, signAt(line, place), () -> used.at(line, place));
        break;
    }
  }

  private String signAt(int line, int place) {
    if (line < 0 || line >= lines.size()) {
      return "IndexOutOfBoundsException";
    }
    String text = lines.get(line);
    return place < 0 || place >= text.length() ? "NoSuchElementException"
        : "" + text.charAt(place);
  }

  // ---- what is asked

  private void run(int steps) {
    Rexworth fresh = new Rexworth();
    for (String text : lines) {
      type(fresh, text);
      fresh.line();
    }
    for (String text : arguments) {
      type(fresh, text);
      fresh.argument();
    }
    String want = asked(() -> fresh.run(steps));
    call("run " + steps, want, () -> used.run(steps));
    twin = want.length() == 1 ? fresh : twin;
  }

  private String word() {
    return random.nextInt(4) == 0 ? maker.pick(Maker.NAMES) + " " : maker.pick(Maker.NAMES);
  }

  private void reckon() {
    int digits = random.nextInt(22);
    int place = random.nextInt(12) - 1;
    Rexworth fresh = new Rexworth();
    type(fresh, typed);
    call("reckon " + digits, asked(() -> fresh.reckon(digits)), () -> used.reckon(digits));
    call("reckoned " + place, asked(() -> fresh.reckoned(digits, place)),
        () -> used.reckoned(digits, place));
  }

  private void askVariable() {
    int place = random.nextInt(6) - 1;
    twin.wipe();
    type(twin, typed);
    alike("isSet " + typed, Rexworth::isSet);
    alike("valueLength " + typed, Rexworth::valueLength);
    alike("valueSign " + typed + " " + place, x -> x.valueSign(place));
  }

  private void ask() {
    int index = random.nextInt(8) - 1;
    int place = random.nextInt(12) - 1;
    switch (random.nextInt(10)) {
      case 0:
        alike("end", Rexworth::end);
        alike("where", Rexworth::where);
        break;
      case 1:
        alike("error", Rexworth::error);
        alike("depth", Rexworth::depth);
        break;
      case 2:
        alike("steps", Rexworth::steps);
        alike("done " + index, x -> x.done(index));
        break;
      case 3:
        alike("said", Rexworth::said);
        alike("saidLength " + index, x -> x.saidLength(index));
        break;
      case 4:
        alike("saidSign " + index + " " + place, x -> x.saidSign(index, place));
        break;
      case 5:
        alike("queued", Rexworth::queued);
        alike("queuedSign " + index + " " + place, x -> x.queuedSign(index, place));
        break;
      case 6:
        alike("commands", Rexworth::commands);
        alike("commandSign " + index + " " + place, x -> x.commandSign(index, place));
        break;
      case 7:
        alike("digits", Rexworth::digits);
        alike("checksum", Rexworth::checksum);
        break;
      case 8:
        alike("doneShare", Rexworth::doneShare);
        alike("meanSaid", Rexworth::meanSaid);
        break;
      default:
        call("isTrue", true, used::isTrue);
        break;
    }
  }
}
