import java.util.ArrayList;
import java.util.Arrays;
import java.util.HashMap;
import java.util.HashSet;
import java.util.List;
import java.util.Map;
import java.util.Set;
import java.util.function.Consumer;
import java.util.function.ToLongFunction;
import java.util.regex.Matcher;
import java.util.regex.Pattern;

/**
 * Compares BellHammer with a second program on many made-up bills and calls. The second program goes
 * other ways wherever it can: it finds error 1 with the bare grammar (Earley's way), reckons sums by
 * looking for the last sign in the row of tokens, and looks ahead by doing all calls again.
 */
public final class ModelTest {
  private static final int RUNS = 2500;

  public static void main(String[] args) {
    int wrong = 0;
    for (int run = 0; run < RUNS && wrong < 10; run++) {
      wrong += new Run(run).play();
    }
    System.out.println(wrong == 0 ? "both programs agree" : wrong + " runs differ");
    if (wrong != 0) {
      System.exit(1);
    }
  }

  /** One made-up run of calls on both programs. */
  private static final class Run {
    private final int number;
    private final Dice dice;
    private final BellHammer real = new BellHammer();
    private final Model model = new Model();
    private final StringBuilder told = new StringBuilder();
    // The document tells nothing of the calls behind the 512th one, so a run ends ahead of it.
    private int used;

    Run(int number) {
      this.number = number;
      this.dice = new Dice(number);
    }

    int play() {
      int bills = 1 + dice.below(3);
      for (int i = 0; i < bills && used < 380; i++) {
        String bill = new BillMaker(dice).bill();
        if (!feed(bill) || !teach() || !calls(3 + dice.below(size(4) > 0 ? 40 : 4))) {
          System.out.println("run " + number + told);
          return 1;
        }
      }
      return 0;
    }

    private boolean feed(String bill) {
      told.append("\nbill ").append(bill);
      boolean same = true;
      for (int from = 0; from < bill.length() && same; from += 20) {
        int[] n = new int[5];
        for (int i = 0; i < 20; i++) {
          int sign = from + i < bill.length() ? bill.charAt(from + i) : dice.below(256);
          n[i / 4] = n[i / 4] << 8 | sign;
        }
        same = same("feed", x -> x.feed(n[0], n[1], n[2], n[3], n[4]),
            x -> x.feed(n[0], n[1], n[2], n[3], n[4]));
      }
      int length = Math.min(bill.length(), 2000);
      return same && same("trim", x -> x.trim(length), x -> x.trim(length));
    }

    private boolean teach() {
      return same("teach", x -> x.teach(), x -> x.teach())
          && same("errorAt", x -> x.errorAt(), x -> x.errorAt())
          && same("digest", x -> x.digest(), x -> x.digest());
    }

    private boolean calls(int many) {
      for (int i = 0; i < many && used < 500; i++) {
        if (!call()) {
          return false;
        }
      }
      return same("digest", x -> x.digest(), x -> x.digest());
    }

    private int size(int what) {
      used++;
      return real.count(what);
    }

    private boolean call() {
      int a = dice.near(size(2));
      int b = dice.near(size(1));
      int c = dice.near(4);
      int rounds = dice.below(3) == 0 ? dice.near(31) : 1 + dice.below(4);
      String given = "(" + a + ", " + b + ", " + c + ", " + rounds + ")";
      switch (dice.below(16)) {
        case 0:
          return same("strike" + given, x -> x.strike(a, b), x -> x.strike(a, b));
        case 1:
          int spring = dice.near(21);
          return same("wind " + spring, x -> x.wind(b, spring), x -> x.wind(b, spring));
        case 2:
          return same("pass" + given, x -> x.pass(rounds), x -> x.pass(rounds));
        case 3:
          return same("would" + given, x -> x.would(a, b, c), x -> x.would(a, b, c));
        case 4:
          int tick = dice.below(4) == 0 ? dice.near(301) : dice.below(60);
          return same("path" + given + tick, x -> x.path(a, b, tick), x -> x.path(a, b, tick));
        case 5:
          return same("needs" + given, x -> x.needs(a, b), x -> x.needs(a, b));
        case 6:
          return same("foresee" + given, x -> x.foresee(rounds, c), x -> x.foresee(rounds, c));
        case 7:
          return same("advise" + given, x -> x.advise(b, rounds), x -> x.advise(b, rounds));
        case 8:
          return same("mean", x -> Double.doubleToLongBits(x.mean()),
              x -> Double.doubleToLongBits(x.mean()));
        case 9:
          int index = dice.near(10);
          return same("board " + index, x -> x.board(index), x -> x.board(index));
        case 10:
          return same("rail" + given, x -> x.rail(b, c), x -> x.rail(b, c));
        case 11:
          int what = dice.near(9);
          return same("fist " + what, x -> x.fist(a, what), x -> x.fist(a, what));
        case 12:
          int prize = dice.near(size(3));
          return same("prize " + prize, x -> x.prize(prize, c), x -> x.prize(prize, c));
        case 13:
          int turn = dice.near(size(4));
          return same("turn " + turn, x -> x.turn(turn, c), x -> x.turn(turn, c));
        case 14:
          int count = dice.near(10);
          return same("count " + count, x -> x.count(count), x -> x.count(count));
        default:
          return same("pass(1)", x -> x.pass(1), x -> x.pass(1));
      }
    }

    private boolean same(String call, ToLongFunction<BellHammer> one, ToLongFunction<Model> two) {
      used++;
      String got = answer(real, one);
      String due = answer(model, two);
      told.append("\n").append(call).append(" -> ").append(got);
      if (!got.equals(due)) {
        told.append(", due is ").append(due);
      }
      return got.equals(due);
    }

    private static <T> String answer(T x, ToLongFunction<T> call) {
      try {
        return Long.toString(call.applyAsLong(x));
      } catch (RuntimeException thrown) {
        return thrown.getClass().getName();
      }
    }
  }

  /** Numbers that are the same in each run of the tests. */
  private static final class Dice {
    private long state;

    Dice(int seed) {
      state = seed * 7919L + 17;
      below(2);
      below(2);
    }

    int below(int bound) {
      state = state * 6364136223846793005L + 1442695040888963407L;
      return (int) ((state >>> 33) % bound);
    }

    /** Mostly 0 to bound - 1, now and then a little or far beyond. */
    int near(int bound) {
      switch (below(24)) {
        case 0:
          return -1;
        case 1:
          return bound;
        case 2:
          return below(2) == 0 ? Integer.MAX_VALUE : Integer.MIN_VALUE;
        default:
          return bound == 0 ? 0 : below(bound);
      }
    }

    String pick(String words) {
      String[] all = words.split(" ");
      return all[below(all.length)];
    }
  }

  /** Makes bills, most of them good ones, and spoils some. */
  private static final class BillMaker {
    private final Dice dice;
    private final List<String> tokens = new ArrayList<>();
    private final List<String> rails = new ArrayList<>();
    private final List<String> fists = new ArrayList<>();
    private final List<String> prizes = new ArrayList<>();
    private final boolean careful;
    private final int deepest;

    BillMaker(Dice dice) {
      this.dice = dice;
      this.careful = dice.below(5) != 0;
      this.deepest = dice.below(6) == 0 ? 10 : 1 + dice.below(7);
    }

    String bill() {
      int railCount = size(2, 4);
      for (int i = 0; i < railCount; i++) {
        railLine();
      }
      for (int i = size(3, 12); i > 0 && dice.below(12) > 0; i--) {
        add("rust on " + known(rails) + " from");
        String from = number(0, 99);
        int least = Math.min(99, Integer.parseInt(from));
        add(from + " to " + number(least, 99) + " by " + number(0, 9) + " ;");
      }
      int fistCount = size(3, 8);
      for (int i = 0; i < fistCount; i++) {
        String name = fresh("f", fists);
        add("fist " + name + " arm " + number(1, 60) + " aim " + number(0, 20));
        add("elbows " + number(0, 9) + " ;");
        fists.add(name);
      }
      for (int i = size(3, 8); i > 0; i--) {
        String name = fresh("p", prizes);
        add("prize " + name + " worth");
        if (dice.below(3) == 0) {
          add(dice.pick("10 20 -3") + " - bells * " + dice.pick("2 3 -5 height") + " +");
        }
        sum(0);
        add("of " + number(0, 99) + " when");
        test(0);
        add(";");
        prizes.add(name);
      }
      for (int i = size(5, 20); i > 0; i--) {
        add("turn " + known(fists) + " at " + known(rails));
        if (dice.below(2) == 0) {
          add("when");
          test(0);
        }
        add(";");
      }
      return written();
    }

    private void railLine() {
      String name = fresh("r", rails);
      add("rail " + name + " high " + number(20, 99) + " puck " + number(1, 9));
      add("spring " + number(0, 20) + " ;");
      rails.add(name);
    }

    private int size(int usual, int most) {
      if (careful) {
        return dice.below(8) == 0 ? most : 1 + dice.below(usual);
      }
      return dice.below(6) == 0 ? most + 1 : dice.below(usual + 1);
    }

    private String fresh(String start, List<String> told) {
      if (!careful && dice.below(12) == 0) {
        return dice.pick("f0 p0 r0 a abcdefghij abcdefghijk high rings x1y2");
      }
      return start + told.size();
    }

    private String known(List<String> told) {
      if (told.isEmpty() || !careful && dice.below(25) == 0) {
        return dice.pick("f0 p0 r0 f9 unknown turn");
      }
      return told.get(dice.below(told.size()));
    }

    private String number(int least, int most) {
      int usual = least + dice.below(most - least + 1);
      switch (dice.below(careful ? 12 : 30)) {
        case 0:
          return Integer.toString(least);
        case 1:
          return Integer.toString(most);
        case 2:
          return careful ? "0" + usual : Integer.toString(most + 1);
        case 3:
          return careful || least == 0 ? Integer.toString(usual) : Integer.toString(least - 1);
        default:
          return Integer.toString(usual);
      }
    }

    private void test(int depth) {
      both(depth);
      while (dice.below(5) == 0) {
        add("or");
        both(depth);
      }
    }

    private void both(int depth) {
      single(depth);
      while (dice.below(5) == 0) {
        add("and");
        single(depth);
      }
    }

    private void single(int depth) {
      int way = dice.below(10);
      if (way == 0 && depth < deepest) {
        add("not");
        single(depth + 1);
      } else if (way == 1 && depth < deepest) {
        add("[");
        test(depth + 1);
        add("]");
      } else if (way < 4) {
        add("rings");
      } else {
        sum(depth);
        add(dice.pick("< > = <= >="));
        sum(depth);
      }
    }

    private void sum(int depth) {
      value(depth);
      int more = dice.below(40) == 0 ? dice.below(60) : dice.below(3) / 2;
      for (int i = 0; i < more; i++) {
        add(dice.pick("+ - * / + -"));
        value(depth);
      }
    }

    private void value(int depth) {
      int way = dice.below(16);
      if (way < 3 && depth < deepest) {
        deeper(way, depth);
      } else if (way < 6) {
        add(dice.pick("height bells round height"));
      } else if (way < 8 && !fists.isEmpty()) {
        add(dice.pick("purse sore") + " " + known(fists));
      } else if (way < 9 && !rails.isEmpty()) {
        add("best " + known(rails));
      } else if (way < 10 && !prizes.isEmpty()) {
        add("left " + known(prizes));
      } else {
        add(dice.pick("0 1 2 3 5 10 20 30 77 999999 65536 32768 000012"));
      }
    }

    private void deeper(int way, int depth) {
      if (way == 0) {
        add("-");
        value(depth + 1);
      } else if (way == 1) {
        add("(");
        sum(depth + 1);
        add(")");
      } else {
        add(dice.pick("min max") + " (");
        sum(depth + 1);
        add(",");
        sum(depth + 1);
        add(")");
      }
    }

    private void add(String text) {
      tokens.addAll(Arrays.asList(text.split(" ")));
    }

    private String written() {
      while (dice.below(8) == 0 && !tokens.isEmpty()) {
        spoil();
      }
      boolean tight = dice.below(3) == 0;
      StringBuilder text = new StringBuilder();
      for (String token : tokens) {
        boolean wordly = text.length() > 0
            && Character.isLetterOrDigit(text.charAt(text.length() - 1))
            && Character.isLetterOrDigit(token.charAt(0));
        if (wordly || !tight || dice.below(20) == 0) {
          text.append(dice.pick("s s s n").equals("n") ? '\n' : ' ');
        }
        text.append(token);
      }
      if (dice.below(25) == 0 && text.length() > 0) {
        text.setCharAt(dice.below(text.length()), (char) dice.below(256));
      }
      int most = dice.below(100) == 0 ? 2100 : 2000;
      return text.length() > most ? text.substring(0, most) : text.toString();
    }

    private void spoil() {
      int at = dice.below(tokens.size());
      switch (dice.below(4)) {
        case 0:
          tokens.remove(at);
          break;
        case 1:
          tokens.add(at, tokens.get(dice.below(tokens.size())));
          break;
        case 2:
          tokens.set(at, tokens.get(dice.below(tokens.size())));
          break;
        default:
          tokens.set(at, dice.pick("( ) [ ] ; , + - * / < > = <= >= not min x 7 1234567 rings"));
          break;
      }
    }
  }

  /** The grammar, with the depth told in the names of its rules, and Earley's way to read by it. */
  private static final class Grammar {
    private static final Map<String, List<String[]>> RULES = new HashMap<>();

    static {
      rule("start", "bill");
      rule("bill", "");
      rule("bill", "bill line ;");
      rule("line", "rail name high number puck number spring number");
      rule("line", "rust on name from number to number by number");
      rule("line", "fist name arm number aim number elbows number");
      rule("line", "prize name worth sum0 of number when test0");
      rule("line", "turn name at name");
      rule("line", "turn name at name when test0");
      for (String sign : "< > = <= >=".split(" ")) {
        rule("compare", sign);
      }
      for (int d = 0; d <= 8; d++) {
        rulesAtDepth("" + d, "" + (d + 1), d < 8);
      }
    }

    private static void rulesAtDepth(String d, String e, boolean canGoDeeper) {
      rule("test" + d, "both" + d);
      rule("test" + d, "test" + d + " or both" + d);
      rule("both" + d, "single" + d);
      rule("both" + d, "both" + d + " and single" + d);
      rule("single" + d, "rings");
      rule("single" + d, "sum" + d + " compare sum" + d);
      rule("sum" + d, "product" + d);
      rule("sum" + d, "sum" + d + " + product" + d);
      rule("sum" + d, "sum" + d + " - product" + d);
      rule("product" + d, "value" + d);
      rule("product" + d, "product" + d + " * value" + d);
      rule("product" + d, "product" + d + " / value" + d);
      for (String value : "number,height,bells,round,purse name,sore name,best name,left name"
          .split(",")) {
        rule("value" + d, value);
      }
      if (canGoDeeper) {
        rule("single" + d, "not single" + e);
        rule("single" + d, "[ test" + e + " ]");
        rule("value" + d, "- value" + e);
        rule("value" + d, "( sum" + e + " )");
        rule("value" + d, "min ( sum" + e + " , sum" + e + " )");
        rule("value" + d, "max ( sum" + e + " , sum" + e + " )");
      } else {
        rule("value" + d, "min nothing");
        rule("value" + d, "max nothing");
      }
    }

    private static void rule(String name, String parts) {
      String[] all = parts.isEmpty() ? new String[0] : parts.split(" ");
      RULES.computeIfAbsent(name, key -> new ArrayList<>()).add(all);
    }

    private record Item(String name, String[] parts, int dot, int origin) {}

    /** How many of the tokens are the beginning of a bill; -1 if all of them are one. */
    static int goodTokens(List<String> sorts) {
      List<List<Item>> chart = new ArrayList<>();
      List<Item> first = new ArrayList<>();
      first.add(new Item("start", RULES.get("start").get(0), 0, 0));
      chart.add(first);
      for (int i = 0; ; i++) {
        List<Item> next = new ArrayList<>();
        boolean whole = complete(chart, i, i < sorts.size() ? sorts.get(i) : "", next);
        if (i == sorts.size()) {
          return whole ? -1 : i;
        }
        if (next.isEmpty()) {
          return i;
        }
        chart.add(next);
      }
    }

    private static boolean complete(List<List<Item>> chart, int at, String sort, List<Item> next) {
      List<Item> items = chart.get(at);
      Set<String> seen = new HashSet<>();
      for (Item item : items) {
        seen.add(key(item));
      }
      boolean whole = false;
      for (int i = 0; i < items.size(); i++) {
        Item item = items.get(i);
        if (item.dot == item.parts.length) {
          whole |= item.name.equals("start");
          for (Item open : new ArrayList<>(chart.get(item.origin))) {
            if (open.dot < open.parts.length && open.parts[open.dot].equals(item.name)) {
              put(items, seen, new Item(open.name, open.parts, open.dot + 1, open.origin));
            }
          }
        } else if (RULES.containsKey(item.parts[item.dot])) {
          for (String[] parts : RULES.get(item.parts[item.dot])) {
            put(items, seen, new Item(item.parts[item.dot], parts, 0, at));
          }
          if (item.parts[item.dot].equals("bill")) {
            put(items, seen, new Item(item.name, item.parts, item.dot + 1, item.origin));
          }
        } else if (item.parts[item.dot].equals(sort)) {
          next.add(new Item(item.name, item.parts, item.dot + 1, item.origin));
        }
      }
      return whole;
    }

    private static void put(List<Item> items, Set<String> seen, Item item) {
      if (seen.add(key(item))) {
        items.add(item);
      }
    }

    private static String key(Item item) {
      return item.name + System.identityHashCode(item.parts) + "," + item.dot + "," + item.origin;
    }
  }

  /** The second program. */
  private static final class Model {
    private static final List<String> KEYWORDS = Arrays.asList(("rail high puck spring rust on from "
        + "to by fist arm aim elbows prize worth of when turn at height bells round purse sore best "
        + "left rings not and or min max").split(" "));
    private static final Pattern TOKEN =
        Pattern.compile("[a-z][a-z0-9]*|[0-9]+|<=|>=|[()\\[\\];,+\\-*/<>=]");

    private List<Consumer<Model>> history = new ArrayList<>();
    private String tape = "";
    private int errorAt = -1;
    private int round;
    private final List<Map<String, Integer>> rails = new ArrayList<>();
    private final List<int[]> rusts = new ArrayList<>();
    private final List<Map<String, Integer>> fists = new ArrayList<>();
    private final List<Map<String, Integer>> prizes = new ArrayList<>();
    private final List<List<String>> worths = new ArrayList<>();
    private final List<List<String>> tests = new ArrayList<>();
    private final List<Map<String, Integer>> turns = new ArrayList<>();
    private final List<List<String>> turnTests = new ArrayList<>();
    private final List<String> names = new ArrayList<>();
    private final List<Integer> row = new ArrayList<>();
    private final List<Integer> heights = new ArrayList<>();
    private int bellsInAll;
    private int lastBells;
    private int given;

    int feed(int... numbers) {
      if (tape.length() > 1980) {
        throw new IllegalStateException();
      }
      for (int number : numbers) {
        for (int i = 3; i >= 0; i--) {
          tape += (char) (number >> 8 * i & 255);
        }
      }
      return tape.length();
    }

    int trim(int n) {
      if (n < 0 || n > tape.length()) {
        throw new IllegalArgumentException();
      }
      tape = tape.substring(0, n);
      return n;
    }

    int teach() {
      String text = tape;
      tape = "";
      List<String> tokens = new ArrayList<>();
      List<Integer> starts = new ArrayList<>();
      cut(text, tokens, starts);
      List<String> sorts = new ArrayList<>();
      for (int i = 0; i < tokens.size(); i++) {
        sorts.add(i == 400 ? "bad" : sortOf(tokens.get(i)));
      }
      starts.add(text.length());
      int good = Grammar.goodTokens(sorts);
      if (good >= 0) {
        errorAt = starts.get(good);
        return 1;
      }
      Model next = new Model();
      int[] error = next.tell(tokens, sorts);
      errorAt = error[0] == 0 ? -1 : starts.get(error[1]);
      if (error[0] == 0) {
        take(next);
        history.add(x -> x.take(told(tokens, sorts)));
      }
      return error[0];
    }

    private static Model told(List<String> tokens, List<String> sorts) {
      Model x = new Model();
      x.tell(tokens, sorts);
      return x;
    }

    private static void cut(String text, List<String> tokens, List<Integer> starts) {
      Matcher matcher = TOKEN.matcher(text);
      int at = 0;
      while (at < text.length()) {
        if (text.charAt(at) == ' ' || text.charAt(at) == '\n') {
          at++;
          continue;
        }
        matcher.region(at, text.length());
        starts.add(at);
        if (!matcher.lookingAt()) {
          tokens.add("?");
          return;
        }
        tokens.add(matcher.group());
        at = matcher.end();
      }
    }

    private static String sortOf(String token) {
      char first = token.charAt(0);
      if (Character.isDigit(first)) {
        return token.length() > 6 ? "bad" : "number";
      }
      if (!Character.isLetter(first) || KEYWORDS.contains(token)) {
        return token;
      }
      return token.length() > 10 ? "bad" : "name";
    }

    private void take(Model next) {
      rails.clear();
      rails.addAll(next.rails);
      rusts.clear();
      rusts.addAll(next.rusts);
      fists.clear();
      fists.addAll(next.fists);
      prizes.clear();
      prizes.addAll(next.prizes);
      worths.clear();
      worths.addAll(next.worths);
      tests.clear();
      tests.addAll(next.tests);
      turns.clear();
      turns.addAll(next.turns);
      turnTests.clear();
      turnTests.addAll(next.turnTests);
      names.clear();
      names.addAll(next.names);
      row.clear();
      row.addAll(next.row);
      heights.clear();
      bellsInAll = 0;
      lastBells = 0;
      given = 0;
    }

    /** Answers the error and the number of its token. */
    private int[] tell(List<String> tokens, List<String> sorts) {
      int lineStart = 0;
      for (int i = 0; i < tokens.size(); i++) {
        int error = errorOf(tokens, sorts, lineStart, i);
        if (error != 0) {
          return new int[] {error, i};
        }
        if (tokens.get(i).equals(";")) {
          tellLine(new ArrayList<>(tokens.subList(lineStart, i)));
          lineStart = i + 1;
        }
      }
      return new int[] {0, 0};
    }

    private int errorOf(List<String> tokens, List<String> sorts, int lineStart, int i) {
      String before = i > 0 ? tokens.get(i - 1) : "";
      String token = tokens.get(i);
      if (sorts.get(i).equals("name")) {
        boolean first = i == lineStart + 1;
        switch (before) {
          case "rail":
            return names.contains("rail " + token) ? 2 : rails.size() == 4 ? 4 : 0;
          case "fist":
            return names.contains("fist " + token) ? 2 : fists.size() == 8 ? 4 : 0;
          case "prize":
            return names.contains("prize " + token) ? 2 : prizes.size() == 8 ? 4 : 0;
          case "on":
          case "at":
          case "best":
            return names.contains("rail " + token) ? 0 : 3;
          case "left":
            return names.contains("prize " + token) ? 0 : 3;
          default:
            return names.contains("fist " + token) ? 0 : first ? 3 : 3;
        }
      }
      if (token.equals("rust")) {
        return rusts.size() == 12 ? 4 : 0;
      }
      if (token.equals("turn")) {
        return turns.size() == 20 ? 4 : 0;
      }
      return sorts.get(i).equals("number") ? errorOfNumber(tokens, i, before) : 0;
    }

    private static int errorOfNumber(List<String> tokens, int i, String before) {
      int value = Integer.parseInt(tokens.get(i));
      switch (before) {
        case "high":
          return value < 20 || value > 99 ? 5 : 0;
        case "puck":
          return value < 1 || value > 9 ? 5 : 0;
        case "spring":
        case "aim":
          return value > 20 ? 5 : 0;
        case "from":
        case "of":
          return value > 99 ? 5 : 0;
        case "to":
          return value > 99 ? 5 : value < Integer.parseInt(tokens.get(i - 2)) ? 6 : 0;
        case "by":
        case "elbows":
          return value > 9 ? 5 : 0;
        case "arm":
          return value < 1 || value > 60 ? 5 : 0;
        default:
          return 0;
      }
    }

    private void tellLine(List<String> line) {
      String kind = line.get(0);
      if (kind.equals("rust")) {
        rusts.add(new int[] {indexOf("rail", line.get(2)), Integer.parseInt(line.get(4)),
            Integer.parseInt(line.get(6)), Integer.parseInt(line.get(8))});
        return;
      }
      Map<String, Integer> thing = new HashMap<>();
      if (kind.equals("rail") || kind.equals("fist")) {
        for (int i = 2; i < line.size(); i += 2) {
          thing.put(line.get(i), Integer.parseInt(line.get(i + 1)));
        }
        (kind.equals("rail") ? rails : fists).add(thing);
        names.add(kind + " " + line.get(1));
      } else if (kind.equals("prize")) {
        int of = line.indexOf("of");
        thing.put("left", Integer.parseInt(line.get(of + 1)));
        prizes.add(thing);
        worths.add(line.subList(3, of));
        tests.add(line.subList(of + 3, line.size()));
        names.add("prize " + line.get(1));
      } else {
        thing.put("fist", indexOf("fist", line.get(1)));
        thing.put("rail", indexOf("rail", line.get(3)));
        row.add(turns.size());
        turns.add(thing);
        turnTests.add(line.size() == 4 ? null : line.subList(5, line.size()));
      }
    }

    private int indexOf(String kind, String name) {
      int index = 0;
      for (String other : names) {
        if (other.equals(kind + " " + name)) {
          return index;
        }
        if (other.startsWith(kind + " ")) {
          index++;
        }
      }
      throw new AssertionError(name);
    }

    int errorAt() {
      return errorAt;
    }

    int count(int what) {
      check(what, 10);
      int[] all = {round, rails.size(), fists.size(), prizes.size(), turns.size(), heights.size(),
          bellsInAll, allOf("purse"), Math.min(10, heights.size()), tape.length()};
      return all[what];
    }

    private int allOf(String what) {
      int sum = 0;
      for (Map<String, Integer> fist : fists) {
        sum += get(fist, what);
      }
      return sum;
    }

    int rail(int rail, int what) {
      check(rail, rails.size());
      check(what, 5);
      return get(rails.get(rail), "high puck spring best strikes".split(" ")[what]);
    }

    int fist(int fist, int what) {
      check(fist, fists.size());
      check(what, 9);
      if (what == 8) {
        int mine = get(fists.get(fist), "purse");
        return 1 + (int) fists.stream().filter(other -> get(other, "purse") > mine).count();
      }
      return get(fists.get(fist), "arm aim elbows sore purse strikes best bells".split(" ")[what]);
    }

    int prize(int prize, int what) {
      check(prize, prizes.size());
      check(what, 4);
      switch (what) {
        case 0:
          return get(prizes.get(prize), "left");
        case 1:
          return get(prizes.get(prize), "given");
        case 2:
          return sum(worths.get(prize));
        default:
          return test(tests.get(prize)) ? 1 : 0;
      }
    }

    int turn(int turn, int what) {
      check(turn, turns.size());
      check(what, 4);
      switch (what) {
        case 0:
          return get(turns.get(turn), "fist");
        case 1:
          return get(turns.get(turn), "rail");
        case 2:
          return row.indexOf(turn);
        default:
          return due(turn) ? 1 : 0;
      }
    }

    int board(int index) {
      check(index, Math.min(10, heights.size()));
      return heights.get(heights.size() - 1 - index);
    }

    int strike(int fist, int rail) {
      check(fist, fists.size());
      check(rail, rails.size());
      int height = hit(fist, rail);
      history.add(x -> x.hit(fist, rail));
      return height;
    }

    int wind(int rail, int spring) {
      check(rail, rails.size());
      if (spring < 0 || spring > 20) {
        throw new IllegalArgumentException();
      }
      history.add(x -> x.rails.get(rail).put("spring", spring));
      return rails.get(rail).put("spring", spring);
    }

    int pass(int rounds) {
      checkRounds(rounds, 30);
      history.add(x -> x.play(rounds));
      return play(rounds);
    }

    int would(int fist, int rail, int what) {
      check(fist, fists.size());
      check(rail, rails.size());
      check(what, 3);
      List<Integer> flight = flight(fists.get(fist), rail);
      int[] all = {highest(flight), flight.get(0), flight.size() - 1};
      return all[what];
    }

    int path(int fist, int rail, int tick) {
      check(fist, fists.size());
      check(rail, rails.size());
      if (tick < 0 || tick > 300) {
        throw new IllegalArgumentException();
      }
      List<Integer> flight = flight(fists.get(fist), rail);
      return tick == 0 || tick >= flight.size() ? 0 : flight.get(tick);
    }

    int needs(int fist, int rail) {
      check(fist, fists.size());
      check(rail, rails.size());
      int least = -1;
      for (int arm = 99; arm > 0; arm--) {
        Map<String, Integer> other = new HashMap<>(fists.get(fist));
        other.put("arm", arm);
        if (flight(other, rail).get(0) > 0) {
          least = arm;
        }
      }
      return least;
    }

    int foresee(int rounds, int what) {
      checkRounds(rounds, 30);
      check(what, 4);
      Model x = again();
      int[] all = {x.play(rounds), x.allOf("purse"), x.bellsInAll - bellsInAll,
          x.heights.size() - heights.size()};
      return all[what];
    }

    int advise(int rail, int rounds) {
      check(rail, rails.size());
      checkRounds(rounds, 4);
      int best = -1;
      int least = 0;
      for (int spring = 0; spring <= 20; spring++) {
        Model x = again();
        x.rails.get(rail).put("spring", spring);
        x.play(rounds);
        if (best < 0 || x.allOf("purse") < least) {
          best = spring;
          least = x.allOf("purse");
        }
      }
      return best;
    }

    double mean() {
      return heights.stream().skip(Math.max(0, heights.size() - 10)).mapToInt(h -> h).average()
          .orElse(0);
    }

    long digest() {
      List<Integer> all = new ArrayList<>();
      add(all, 10, this::count);
      for (int i = 0; i < rails.size(); i++) {
        int rail = i;
        add(all, 5, what -> rail(rail, what));
      }
      for (int i = 0; i < fists.size(); i++) {
        int fist = i;
        add(all, 9, what -> fist(fist, what));
      }
      for (int i = 0; i < prizes.size(); i++) {
        int prize = i;
        add(all, 4, what -> prize(prize, what));
      }
      for (int i = 0; i < turns.size(); i++) {
        int turn = i;
        add(all, 4, what -> turn(turn, what));
      }
      add(all, count(8), this::board);
      long d = 761;
      for (int x : all) {
        d = d * 31 + x;
      }
      return d;
    }

    private static void add(List<Integer> all, int many, java.util.function.IntUnaryOperator tell) {
      for (int what = 0; what < many; what++) {
        all.add(tell.applyAsInt(what));
      }
    }

    /** The same contest, made once more by all that was done. */
    private Model again() {
      Model x = new Model();
      for (Consumer<Model> step : history) {
        step.accept(x);
      }
      return x;
    }

    private static void check(int index, int bound) {
      if (index < 0 || index >= bound) {
        throw new IndexOutOfBoundsException();
      }
    }

    private static void checkRounds(int rounds, int most) {
      if (rounds < 1 || rounds > most) {
        throw new IllegalArgumentException();
      }
    }

    private static int get(Map<String, Integer> thing, String what) {
      return thing.getOrDefault(what, 0);
    }

    private static int highest(List<Integer> flight) {
      int highest = 0;
      for (int tick = 1; tick < flight.size(); tick++) {
        highest = Math.max(highest, flight.get(tick));
      }
      return highest;
    }

    /** The number of bells, and then the places behind tick 1, 2, and so on. */
    private List<Integer> flight(Map<String, Integer> fist, int railIndex) {
      Map<String, Integer> rail = rails.get(railIndex);
      int force = Math.max(0, get(fist, "arm") + get(fist, "aim") - get(fist, "sore"));
      int speed = 4 * force / get(rail, "puck");
      List<Integer> flight = new ArrayList<>(List.of(0));
      if (speed == 0) {
        return flight;
      }
      int place = 0;
      while (flight.size() <= 300) {
        place += speed;
        if (place >= get(rail, "high")) {
          place = get(rail, "high");
          flight.set(0, flight.get(0) + 1);
          speed = -(speed * get(rail, "spring") / 20);
        }
        if (place <= 0) {
          place = 0;
          speed = -speed * get(rail, "spring") / 30;
          if (speed == 1 || speed == 0) {
            flight.add(place);
            break;
          }
        }
        flight.add(place);
        if (speed > 0) {
          int slower = 1;
          for (int[] rust : rusts) {
            slower += rust[0] == railIndex && rust[1] <= place && place <= rust[2] ? rust[3] : 0;
          }
          speed = Math.max(0, speed - slower);
        } else {
          speed = Math.max(-20, speed - 1);
        }
      }
      return flight;
    }

    private int hit(int fistIndex, int railIndex) {
      Map<String, Integer> fist = fists.get(fistIndex);
      Map<String, Integer> rail = rails.get(railIndex);
      List<Integer> flight = flight(fist, railIndex);
      int height = highest(flight);
      lastBells = flight.get(0);
      bellsInAll += lastBells;
      heights.add(height);
      for (Map<String, Integer> thing : List.of(fist, rail)) {
        thing.merge("best", height, Math::max);
        thing.merge("strikes", 1, Integer::sum);
        thing.merge("bells", lastBells, Integer::sum);
      }
      fist.put("sore", Math.min(60, get(fist, "sore") + get(rail, "puck")));
      fist.put("struck", 1);
      for (int i = 0; i < prizes.size(); i++) {
        if (get(prizes.get(i), "left") > 0 && test(tests.get(i))) {
          prizes.get(i).merge("left", -1, Integer::sum);
          prizes.get(i).merge("given", 1, Integer::sum);
          given++;
          fist.put("purse", get(fist, "purse") + sum(worths.get(i)));
          break;
        }
      }
      return height;
    }

    private int play(int rounds) {
      int before = given;
      for (int n = 0; n < rounds; n++) {
        for (int i = 1; i < row.size(); i++) {
          Map<String, Integer> mine = fists.get(get(turns.get(row.get(i)), "fist"));
          Map<String, Integer> ahead = fists.get(get(turns.get(row.get(i - 1)), "fist"));
          if (get(mine, "elbows") > get(ahead, "elbows") + 2) {
            row.add(i - 1, row.remove(i));
            mine.merge("elbows", -1, Integer::sum);
          }
        }
        for (int turn : row) {
          if (due(turn)) {
            hit(get(turns.get(turn), "fist"), get(turns.get(turn), "rail"));
          }
        }
        for (Map<String, Integer> fist : fists) {
          if (fist.remove("struck") == null) {
            fist.put("sore", Math.max(0, get(fist, "sore") - 3));
          }
        }
        round++;
      }
      return given - before;
    }

    private boolean due(int turn) {
      return turnTests.get(turn) == null || test(turnTests.get(turn));
    }

    private boolean test(List<String> tokens) {
      int or = lastOutside(tokens, "or");
      if (or >= 0) {
        return test(tokens.subList(0, or)) | test(tokens.subList(or + 1, tokens.size()));
      }
      int and = lastOutside(tokens, "and");
      if (and >= 0) {
        return test(tokens.subList(0, and)) & test(tokens.subList(and + 1, tokens.size()));
      }
      if (tokens.get(0).equals("not")) {
        return !test(tokens.subList(1, tokens.size()));
      }
      if (tokens.get(0).equals("[")) {
        return test(tokens.subList(1, tokens.size() - 1));
      }
      if (tokens.get(0).equals("rings")) {
        return lastBells > 0;
      }
      int sign = lastOutside(tokens, "< > = <= >=");
      int left = sum(tokens.subList(0, sign));
      int right = sum(tokens.subList(sign + 1, tokens.size()));
      String signs = left < right ? "< <=" : left > right ? "> >=" : "= <= >=";
      return Arrays.asList(signs.split(" ")).contains(tokens.get(sign));
    }

    private int sum(List<String> tokens) {
      for (String signs : new String[] {"+ -", "* /"}) {
        int sign = lastOutside(tokens, signs);
        if (sign > 0) {
          return joined(tokens.get(sign), sum(tokens.subList(0, sign)),
              sum(tokens.subList(sign + 1, tokens.size())));
        }
      }
      String first = tokens.get(0);
      switch (first) {
        case "-":
          return -sum(tokens.subList(1, tokens.size()));
        case "(":
          return sum(tokens.subList(1, tokens.size() - 1));
        case "min":
        case "max":
          List<String> inside = tokens.subList(2, tokens.size() - 1);
          int comma = lastOutside(inside, ",");
          int left = sum(inside.subList(0, comma));
          int right = sum(inside.subList(comma + 1, inside.size()));
          return first.equals("min") ? Math.min(left, right) : Math.max(left, right);
        case "height":
          return heights.isEmpty() ? 0 : heights.get(heights.size() - 1);
        case "bells":
          return lastBells;
        case "round":
          return round;
        case "purse":
        case "sore":
          return get(fists.get(indexOf("fist", tokens.get(1))), first);
        case "best":
          return get(rails.get(indexOf("rail", tokens.get(1))), first);
        case "left":
          return get(prizes.get(indexOf("prize", tokens.get(1))), first);
        default:
          return Integer.parseInt(first);
      }
    }

    private static int joined(String sign, int left, int right) {
      long a = left;
      long b = right;
      switch (sign) {
        case "+":
          return (int) (a + b);
        case "-":
          return (int) (a - b);
        case "*":
          return (int) (a * b);
        default:
          return b == 0 ? 0 : (int) (a / b);
      }
    }

    /** The last place of one of the tokens outside of brackets; a sign has a value ahead of it. */
    private static int lastOutside(List<String> tokens, String wanted) {
      List<String> all = Arrays.asList(wanted.split(" "));
      int depth = 0;
      for (int i = tokens.size() - 1; i >= 0; i--) {
        String token = tokens.get(i);
        if (token.equals(")") || token.equals("]")) {
          depth++;
        } else if (token.equals("(") || token.equals("[")) {
          depth--;
        } else if (depth == 0 && all.contains(token) && !isFront(tokens, i)) {
          return i;
        }
      }
      return -1;
    }

    private static boolean isFront(List<String> tokens, int i) {
      if (!tokens.get(i).equals("-")) {
        return false;
      }
      if (i == 0) {
        return true;
      }
      String before = tokens.get(i - 1);
      return !before.equals(")") && !Character.isLetterOrDigit(before.charAt(0));
    }
  }
}
