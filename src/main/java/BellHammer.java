/**
 * A sledge hammer contest of a fair: fists strike at rails, pucks fly up and ring bells, and prizes
 * are given by tests. The numbered promises of ../shared/DOC.md say what each call answers.
 *
 * <p>Everything an object needs is made with it and used again, so that no later call makes objects.
 */
public final class BellHammer {
  // A symbol of one byte is its own kind of token; the other kinds lie beyond all bytes.
  private static final int END = 256;
  private static final int BAD = 257;
  private static final int NAME = 258;
  private static final int NUMBER = 259;
  private static final int AT_MOST = 260;
  private static final int AT_LEAST = 261;
  private static final int NEGATE = 262;

  // The kind of a keyword is RAIL and its place in this text, so both keep one order.
  private static final String KEYWORDS =
      "rail high puck spring rust on from to by fist arm aim elbows prize worth of when turn at height bells round purse sore best left rings not and or min max ";
  private static final int KEYWORD_COUNT = 32;
  private static final int RAIL = 300;
  private static final int HIGH = 301;
  private static final int PUCK = 302;
  private static final int SPRING = 303;
  private static final int RUST = 304;
  private static final int ON = 305;
  private static final int FROM = 306;
  private static final int TO = 307;
  private static final int BY = 308;
  private static final int FIST = 309;
  private static final int ARM = 310;
  private static final int AIM = 311;
  private static final int ELBOWS = 312;
  private static final int PRIZE = 313;
  private static final int WORTH = 314;
  private static final int OF = 315;
  private static final int WHEN = 316;
  private static final int TURN = 317;
  private static final int AT = 318;
  private static final int HEIGHT = 319;
  private static final int BELLS = 320;
  private static final int ROUND = 321;
  private static final int PURSE = 322;
  private static final int SORE = 323;
  private static final int BEST = 324;
  private static final int LEFT = 325;
  private static final int RINGS = 326;
  private static final int NOT = 327;
  private static final int AND = 328;
  private static final int OR = 329;
  private static final int MIN = 330;
  private static final int MAX = 331;

  private static final int MOST_ROUNDS = 30;
  private static final int MOST_ADVISED_ROUNDS = 4;
  private static final int MOST_NEEDED_ARM = 99;

  private final Tape tape;
  private final Tokens tokens;
  private final Reader reader;
  private Contest now;
  // Holds the bill that is being read, or the contest that is played ahead; never both at once.
  private Contest other;
  private int errorPosition;

  public BellHammer() {
    tape = new Tape();
    tokens = new Tokens();
    now = new Contest();
    other = new Contest();
    reader = new Reader(tokens, other);
    errorPosition = -1;
  }

  // ---- the language

  public int feed(int a, int b, int c, int d, int e) throws IllegalStateException {
    if (!tape.hasRoomFor(20)) {
      throw new IllegalStateException("the tape is full");
    }
    tape.addNumber(a);
    tape.addNumber(b);
    tape.addNumber(c);
    tape.addNumber(d);
    tape.addNumber(e);
    return tape.length;
  }

  public int trim(int n) throws IllegalArgumentException {
    if (n < 0 || n > tape.length) {
      throw new IllegalArgumentException("the tape has not so many bytes");
    }
    tape.shortenTo(n);
    return n;
  }

  public int teach() {
    tokens.readAll(tape);
    tape.shortenTo(0);
    other.clear();
    int error = reader.readBill(other);
    errorPosition = reader.errorAtByte();
    if (error == 0) {
      other.round = now.round;
      Contest before = now;
      now = other;
      other = before;
    }
    return error;
  }

  public int errorAt() {
    return errorPosition;
  }

  public int count(int what) throws IndexOutOfBoundsException {
    if (what < 0 || what > 9) {
      throw new IndexOutOfBoundsException("what is not 0 to 9");
    }
    return tellCount(what);
  }

  // ---- what is there

  public int rail(int rail, int what) throws IndexOutOfBoundsException {
    if (!now.hasRail(rail) || what < 0 || what > 4) {
      throw new IndexOutOfBoundsException("no such rail, or what is not 0 to 4");
    }
    return now.tellRail(rail, what);
  }

  public int fist(int fist, int what) throws IndexOutOfBoundsException {
    if (!now.hasFist(fist) || what < 0 || what > 8) {
      throw new IndexOutOfBoundsException("no such fist, or what is not 0 to 8");
    }
    return now.tellFist(fist, what);
  }

  public int prize(int prize, int what) throws IndexOutOfBoundsException {
    if (!now.hasPrize(prize) || what < 0 || what > 3) {
      throw new IndexOutOfBoundsException("no such prize, or what is not 0 to 3");
    }
    return now.tellPrize(prize, what);
  }

  public int turn(int turn, int what) throws IndexOutOfBoundsException {
    if (!now.hasTurn(turn) || what < 0 || what > 3) {
      throw new IndexOutOfBoundsException("no such turn, or what is not 0 to 3");
    }
    return now.tellTurn(turn, what);
  }

  public int board(int index) throws IndexOutOfBoundsException {
    if (!now.board.has(index)) {
      throw new IndexOutOfBoundsException("the board has no height there");
    }
    return now.board.heightAt(index);
  }

  // ---- strikes and rounds

  public int strike(int fist, int rail) throws IndexOutOfBoundsException {
    if (!now.hasFist(fist) || !now.hasRail(rail)) {
      throw new IndexOutOfBoundsException("no such fist or rail");
    }
    now.hit(fist, rail);
    return now.height;
  }

  public int wind(int rail, int spring)
      throws IndexOutOfBoundsException, IllegalArgumentException {
    if (!now.hasRail(rail)) {
      throw new IndexOutOfBoundsException("no such rail");
    }
    if (spring < 0 || spring > Rail.MOST_SPRING) {
      throw new IllegalArgumentException("the spring is not 0 to 20");
    }
    return now.changeSpring(rail, spring);
  }

  public int pass(int rounds) throws IllegalArgumentException {
    if (rounds < 1 || rounds > MOST_ROUNDS) {
      throw new IllegalArgumentException("the rounds are not 1 to 30");
    }
    int before = now.given;
    now.play(rounds);
    return now.given - before;
  }

  // ---- what would be

  public int would(int fist, int rail, int what) throws IndexOutOfBoundsException {
    if (!now.hasFist(fist) || !now.hasRail(rail) || what < 0 || what > 2) {
      throw new IndexOutOfBoundsException("no such fist or rail, or what is not 0 to 2");
    }
    Flight flight = now.flightOf(fist, rail);
    if (what == 0) {
      return flight.height;
    }
    return what == 1 ? flight.bells : flight.ticks;
  }

  public int path(int fist, int rail, int tick)
      throws IndexOutOfBoundsException, IllegalArgumentException {
    if (!now.hasFist(fist) || !now.hasRail(rail)) {
      throw new IndexOutOfBoundsException("no such fist or rail");
    }
    if (tick < 0 || tick > Flight.MOST_TICKS) {
      throw new IllegalArgumentException("the tick is not 0 to 300");
    }
    return now.flightOf(fist, rail).placeBehind(tick);
  }

  public int needs(int fist, int rail) throws IndexOutOfBoundsException {
    if (!now.hasFist(fist) || !now.hasRail(rail)) {
      throw new IndexOutOfBoundsException("no such fist or rail");
    }
    for (int arm = 1; arm <= MOST_NEEDED_ARM; arm++) {
      if (now.flightWithArm(fist, rail, arm).bells > 0) {
        return arm;
      }
    }
    return -1;
  }

  public int foresee(int rounds, int what)
      throws IllegalArgumentException, IndexOutOfBoundsException {
    if (rounds < 1 || rounds > MOST_ROUNDS) {
      throw new IllegalArgumentException("the rounds are not 1 to 30");
    }
    if (what < 0 || what > 3) {
      throw new IndexOutOfBoundsException("what is not 0 to 3");
    }
    other.copyFrom(now);
    other.play(rounds);
    switch (what) {
      case 0:
        return other.given - now.given;
      case 1:
        return other.allPurses();
      case 2:
        return other.bellsInAll - now.bellsInAll;
      default:
        return other.strikes - now.strikes;
    }
  }

  public int advise(int rail, int rounds)
      throws IndexOutOfBoundsException, IllegalArgumentException {
    if (!now.hasRail(rail)) {
      throw new IndexOutOfBoundsException("no such rail");
    }
    if (rounds < 1 || rounds > MOST_ADVISED_ROUNDS) {
      throw new IllegalArgumentException("the rounds are not 1 to 4");
    }
    int bestSpring = 0;
    int leastPurses = 0;
    for (int spring = 0; spring <= Rail.MOST_SPRING; spring++) {
      other.copyFrom(now);
      other.changeSpring(rail, spring);
      other.play(rounds);
      int purses = other.allPurses();
      if (spring == 0 || purses < leastPurses) {
        bestSpring = spring;
        leastPurses = purses;
      }
    }
    return bestSpring;
  }

  public double mean() {
    return now.board.meanHeight();
  }

  public long digest() {
    long d = 761;
    for (int what = 0; what <= 9; what++) {
      d = d * 31 + tellCount(what);
    }
    return now.digestBehind(d);
  }

  private int tellCount(int what) {
    return what == 9 ? tape.length : now.tellCountOf(what);
  }

  /** The bytes that were fed and not yet read. */
  private static final class Tape {
    static final int MOST_BYTES = 2000;

    final int[] bytes = new int[MOST_BYTES];
    int length;

    boolean hasRoomFor(int more) {
      return length + more <= MOST_BYTES;
    }

    void addNumber(int number) {
      for (int shift = 24; shift >= 0; shift -= 8) {
        if (length >= 0 && length < bytes.length) {
          bytes[length] = number >>> shift & 255;
          length++;
        }
      }
    }

    void shortenTo(int kept) {
      length = kept;
    }

    /** The byte there, or END, which is no byte, where the tape has none. */
    int byteAt(int position) {
      return position >= 0 && position < length && position < bytes.length
          ? bytes[position]
          : END;
    }
  }

  /** The tape cut into tokens; the last one is END, or BAD where the tape can't be cut further. */
  private static final class Tokens {
    static final int MOST_TOKENS = 400;
    private static final int LONGEST_WORD = 10;
    private static final int LONGEST_NUMBER = 6;
    private static final String SYMBOLS = "()[];,+-*/<>=";

    private final int[] kinds = new int[MOST_TOKENS + 1];
    private final int[] starts = new int[MOST_TOKENS + 1];
    private final long[] values = new long[MOST_TOKENS + 1];
    private final long[] keywordCodes;
    private int count;

    Tokens() {
      keywordCodes = codesOf(KEYWORDS);
    }

    int kindAt(int index) {
      return index >= 0 && index < count && index < kinds.length ? kinds[index] : BAD;
    }

    int startAt(int index) {
      return index >= 0 && index < count && index < starts.length ? starts[index] : 0;
    }

    /** The number, or the code of the name, that the token is; 0 for other tokens. */
    long valueAt(int index) {
      return index >= 0 && index < count && index < values.length ? values[index] : 0;
    }

    void readAll(Tape tape) {
      count = 0;
      int position = behindBlanks(tape, 0);
      for (int n = 0; n < MOST_TOKENS; n++) {
        int end = readToken(tape, position);
        if (end == position) {
          break;
        }
        position = behindBlanks(tape, end);
      }
      // Whatever is left is the 401st token, or none at all: both are refused at this byte.
      addToken(position < tape.length ? BAD : END, position, 0);
    }

    private static int behindBlanks(Tape tape, int from) {
      int position = from;
      while (position < tape.length && isBlank(tape.byteAt(position))) {
        position++;
      }
      return position;
    }

    /** Answers the position behind the token, or the same position if there is no good one. */
    private int readToken(Tape tape, int start) {
      int first = tape.byteAt(start);
      if (isLetter(first)) {
        return readWord(tape, start);
      }
      return isDigit(first) ? readNumber(tape, start) : readSymbol(first, tape, start);
    }

    private int readWord(Tape tape, int start) {
      int end = start;
      long code = 0;
      while (end < tape.length && isLetterOrDigit(tape.byteAt(end))) {
        code = withSign(code, tape.byteAt(end));
        end++;
      }
      if (end - start > LONGEST_WORD) {
        return start;
      }
      int kind = kindOfWord(code);
      addToken(kind, start, kind == NAME ? code : 0);
      return end;
    }

    private int readNumber(Tape tape, int start) {
      int end = start;
      long number = 0;
      while (end < tape.length && isDigit(tape.byteAt(end))) {
        number = number * 10 + (tape.byteAt(end) - '0');
        end++;
      }
      if (end - start > LONGEST_NUMBER) {
        return start;
      }
      addToken(NUMBER, start, number);
      return end;
    }

    private int readSymbol(int first, Tape tape, int start) {
      if (!isSymbol(first)) {
        return start;
      }
      boolean withEqual = (first == '<' || first == '>') && tape.byteAt(start + 1) == '=';
      if (withEqual) {
        addToken(first == '<' ? AT_MOST : AT_LEAST, start, 0);
        return start + 2;
      }
      addToken(first, start, 0);
      return start + 1;
    }

    private void addToken(int kind, int start, long value) {
      if (count >= 0 && count < kinds.length && count < starts.length && count < values.length) {
        kinds[count] = kind;
        starts[count] = start;
        values[count] = value;
        count++;
      }
    }

    private int kindOfWord(long code) {
      for (int i = 0; i < keywordCodes.length; i++) {
        if (keywordCodes[i] == code) {
          return RAIL + i;
        }
      }
      return NAME;
    }

    private static long[] codesOf(String words) {
      long[] codes = new long[KEYWORD_COUNT];
      int word = 0;
      long code = 0;
      for (int i = 0; i < words.length(); i++) {
        char sign = words.charAt(i);
        if (sign != ' ') {
          code = withSign(code, sign);
        } else if (word < codes.length) {
          codes[word] = code;
          word++;
          code = 0;
        }
      }
      return codes;
    }

    /** Ten signs of 36, none of them counted as 0, fit into a long, each word as another number. */
    private static long withSign(long code, int sign) {
      return code * 37 + (isLetter(sign) ? sign - 'a' + 1 : sign - '0' + 27);
    }

    private static boolean isBlank(int sign) {
      return sign == 32 || sign == 10;
    }

    private static boolean isLetter(int sign) {
      return sign >= 'a' && sign <= 'z';
    }

    private static boolean isDigit(int sign) {
      return sign >= '0' && sign <= '9';
    }

    private static boolean isLetterOrDigit(int sign) {
      return isLetter(sign) || isDigit(sign);
    }

    private static boolean isSymbol(int sign) {
      for (int i = 0; i < SYMBOLS.length(); i++) {
        if (SYMBOLS.charAt(i) == sign) {
          return true;
        }
      }
      return false;
    }
  }

  /**
   * Reads the tokens as a bill into a contest. Behind an error 1 every token counts as BAD, so that
   * all open rules come to their end by themselves.
   */
  private static final class Reader {
    private static final int MOST_DEPTH = 8;

    private final Tokens tokens;
    private Contest contest;
    private int next;
    private int error;
    private int errorByte;

    Reader(Tokens source, Contest firstContest) {
      tokens = source;
      contest = firstContest;
    }

    int errorAtByte() {
      return errorByte;
    }

    int readBill(Contest into) {
      contest = into;
      next = 0;
      error = 0;
      errorByte = -1;
      for (int n = 0; n <= Tokens.MOST_TOKENS && error != 1 && kind() != END; n++) {
        switch (kind()) {
          case RAIL:
            readRail();
            break;
          case RUST:
            readRust();
            break;
          case FIST:
            readFist();
            break;
          case PRIZE:
            readPrize();
            break;
          case TURN:
            readTurn();
            break;
          default:
            refuse();
            break;
        }
        expect(';');
      }
      return error;
    }

    private void readRail() {
      expect(RAIL);
      long name = value();
      expectNewName(contest.railNamed(name) >= 0, contest.railCount >= Contest.MOST_RAILS);
      int high = numberBehind(HIGH, 20, 99);
      int puck = numberBehind(PUCK, 1, 9);
      int spring = numberBehind(SPRING, 0, Rail.MOST_SPRING);
      if (error == 0) {
        contest.addRail(name, high, puck, spring);
      }
    }

    private void readRust() {
      if (contest.rustCount >= Contest.MOST_RUSTS) {
        blame(4);
      }
      expect(RUST);
      expect(ON);
      int rail = knownName(contest.railNamed(value()));
      int from = numberBehind(FROM, 0, Rail.MOST_PLACE);
      int to = numberOfTo(from);
      int by = numberBehind(BY, 0, 9);
      if (error == 0) {
        contest.addRust(rail, from, to, by);
      }
    }

    private void readFist() {
      expect(FIST);
      long name = value();
      expectNewName(contest.fistNamed(name) >= 0, contest.fistCount >= Contest.MOST_FISTS);
      int arm = numberBehind(ARM, 1, 60);
      int aim = numberBehind(AIM, 0, 20);
      int elbows = numberBehind(ELBOWS, 0, 9);
      if (error == 0) {
        contest.addFist(name, arm, aim, elbows);
      }
    }

    private void readPrize() {
      expect(PRIZE);
      long name = value();
      expectNewName(contest.prizeNamed(name) >= 0, contest.prizeCount >= Contest.MOST_PRIZES);
      expect(WORTH);
      int worthFrom = contest.code.size;
      readSum(0);
      int left = numberBehind(OF, 0, 99);
      expect(WHEN);
      int testFrom = contest.code.size;
      readTest(0);
      // Only now, as a prize is not told ahead in its own worth and test.
      if (error == 0) {
        contest.addPrize(name, left, worthFrom, testFrom, contest.code.size);
      }
    }

    private void readTurn() {
      if (contest.turnCount >= Contest.MOST_TURNS) {
        blame(4);
      }
      expect(TURN);
      int fist = knownName(contest.fistNamed(value()));
      expect(AT);
      int rail = knownName(contest.railNamed(value()));
      int testFrom = contest.code.size;
      if (kind() == WHEN) {
        expect(WHEN);
        readTest(0);
      }
      if (error == 0) {
        contest.addTurn(fist, rail, testFrom, contest.code.size);
      }
    }

    private void readTest(int depth) {
      readBoth(depth);
      for (int n = 0; n < Tokens.MOST_TOKENS && kind() == OR; n++) {
        expect(OR);
        readBoth(depth);
        contest.code.add(OR, 0);
      }
    }

    private void readBoth(int depth) {
      readSingle(depth);
      for (int n = 0; n < Tokens.MOST_TOKENS && kind() == AND; n++) {
        expect(AND);
        readSingle(depth);
        contest.code.add(AND, 0);
      }
    }

    private void readSingle(int depth) {
      switch (kind()) {
        case NOT:
          if (goesDeeper(NOT, depth)) {
            readSingle(depth + 1);
            contest.code.add(NOT, 0);
          }
          break;
        case '[':
          if (goesDeeper('[', depth)) {
            readTest(depth + 1);
            expect(']');
          }
          break;
        case RINGS:
          readPlainValue(RINGS);
          break;
        default:
          readSum(depth);
          int sign = comparingSign();
          readSum(depth);
          contest.code.add(sign, 0);
          break;
      }
    }

    private int comparingSign() {
      int sign = kind();
      boolean compares =
          sign == '<' || sign == '>' || sign == '=' || sign == AT_MOST || sign == AT_LEAST;
      // Another token is none of the five, so any of them refuses it.
      expect(compares ? sign : '=');
      return sign;
    }

    private void readSum(int depth) {
      readProduct(depth);
      for (int n = 0; n < Tokens.MOST_TOKENS && (kind() == '+' || kind() == '-'); n++) {
        int sign = kind();
        expect(sign);
        readProduct(depth);
        contest.code.add(sign, 0);
      }
    }

    private void readProduct(int depth) {
      readValue(depth);
      for (int n = 0; n < Tokens.MOST_TOKENS && (kind() == '*' || kind() == '/'); n++) {
        int sign = kind();
        expect(sign);
        readValue(depth);
        contest.code.add(sign, 0);
      }
    }

    private void readValue(int depth) {
      int kind = kind();
      switch (kind) {
        case NUMBER:
        case HEIGHT:
        case BELLS:
        case ROUND:
          readPlainValue(kind);
          break;
        case PURSE:
        case SORE:
        case BEST:
        case LEFT:
          readNamedValue(kind);
          break;
        case '-':
          if (goesDeeper('-', depth)) {
            readValue(depth + 1);
            contest.code.add(NEGATE, 0);
          }
          break;
        case '(':
          if (goesDeeper('(', depth)) {
            readSum(depth + 1);
            expect(')');
          }
          break;
        case MIN:
        case MAX:
          expect(kind);
          readPair(kind, depth);
          break;
        default:
          refuse();
          break;
      }
    }

    private void readPair(int kind, int depth) {
      if (goesDeeper('(', depth)) {
        readSum(depth + 1);
        expect(',');
        readSum(depth + 1);
        expect(')');
        contest.code.add(kind, 0);
      }
    }

    private void readPlainValue(int kind) {
      contest.code.add(kind, (int) value());
      expect(kind);
    }

    private void readNamedValue(int kind) {
      expect(kind);
      int index = knownName(indexOf(kind, value()));
      contest.code.add(kind, index);
    }

    private int indexOf(int kind, long name) {
      if (kind == BEST) {
        return contest.railNamed(name);
      }
      return kind == LEFT ? contest.prizeNamed(name) : contest.fistNamed(name);
    }

    private void expectNewName(boolean told, boolean full) {
      if (kind() == NAME && told) {
        blame(2);
      }
      if (kind() == NAME && full) {
        blame(4);
      }
      expect(NAME);
    }

    private int knownName(int index) {
      if (kind() == NAME && index < 0) {
        blame(3);
      }
      expect(NAME);
      return index;
    }

    private int numberBehind(int keyword, int least, int most) {
      expect(keyword);
      long number = value();
      if (kind() == NUMBER && (number < least || number > most)) {
        blame(5);
      }
      expect(NUMBER);
      return (int) number;
    }

    private int numberOfTo(int from) {
      expect(TO);
      long number = value();
      if (kind() == NUMBER && number > Rail.MOST_PLACE) {
        blame(5);
      }
      if (kind() == NUMBER && number < from) {
        blame(6);
      }
      expect(NUMBER);
      return (int) number;
    }

    private int kind() {
      return error == 1 ? BAD : tokens.kindAt(next);
    }

    private long value() {
      return error == 1 ? 0 : tokens.valueAt(next);
    }

    private void expect(int kind) {
      if (kind() == kind) {
        next++;
      } else {
        refuse();
      }
    }

    /** Takes a token that opens a greater depth; if it can't be taken, nothing may be read in it. */
    private boolean goesDeeper(int kind, int depth) {
      if (depth < MOST_DEPTH) {
        expect(kind);
      } else {
        refuse();
      }
      return error != 1;
    }

    /** Error 1: it stands even if another error was told ahead of it. */
    private void refuse() {
      if (error != 1) {
        error = 1;
        errorByte = tokens.startAt(next);
      }
    }

    private void blame(int number) {
      if (error == 0) {
        error = number;
        errorByte = tokens.startAt(next);
      }
    }
  }

  /**
   * All worths and tests of a bill, each a row of steps in which the values stand ahead of what is
   * done with them; so long sums need no recursion.
   */
  private static final class Code {
    private final int[] kinds = new int[Tokens.MOST_TOKENS];
    private final int[] arguments = new int[Tokens.MOST_TOKENS];
    private final int[] stack = new int[Tokens.MOST_TOKENS];
    private int top;
    int size;

    void add(int kind, int argument) {
      if (size >= 0 && size < kinds.length && size < arguments.length) {
        kinds[size] = kind;
        arguments[size] = argument;
        size++;
      }
    }

    void copyFrom(Code from) {
      size = 0;
      for (int i = 0; i < from.size && i < from.kinds.length && i < from.arguments.length; i++) {
        add(from.kinds[i], from.arguments[i]);
      }
    }

    /** The value of the steps; a test that holds is 1, another one 0. */
    int reckon(int from, int to, Contest contest) {
      top = 0;
      for (int i = from; i < to; i++) {
        int kind = i >= 0 && i < size && i < kinds.length ? kinds[i] : NUMBER;
        int argument = i >= 0 && i < size && i < arguments.length ? arguments[i] : 0;
        if (kind == NUMBER) {
          push(argument);
        } else if (kind == NEGATE) {
          push(-pop());
        } else if (kind == NOT) {
          push(1 - pop());
        } else if (kind >= HEIGHT && kind <= RINGS) {
          push(contest.reading(kind, argument));
        } else {
          int right = pop();
          int left = pop();
          push(isJoining(kind) ? joined(kind, left, right) : compared(kind, left, right));
        }
      }
      return pop();
    }

    private static boolean isJoining(int kind) {
      return kind == '+' || kind == '-' || kind == '*' || kind == '/' || kind >= AND;
    }

    private static int joined(int kind, int left, int right) {
      switch (kind) {
        case '+':
          return left + right;
        case '-':
          return left - right;
        case '*':
          return left * right;
        case '/':
          return right == 0 ? 0 : left / right;
        case MIN:
          return left < right ? left : right;
        case MAX:
          return left > right ? left : right;
        case AND:
          return left & right;
        default:
          return left | right;
      }
    }

    private static int compared(int kind, int left, int right) {
      boolean holds;
      switch (kind) {
        case '<':
          holds = left < right;
          break;
        case '>':
          holds = left > right;
          break;
        case '=':
          holds = left == right;
          break;
        case AT_MOST:
          holds = left <= right;
          break;
        default:
          holds = left >= right;
          break;
      }
      return holds ? 1 : 0;
    }

    private void push(int value) {
      if (top >= 0 && top < stack.length) {
        stack[top] = value;
        top++;
      }
    }

    private int pop() {
      if (top <= 0 || top > stack.length) {
        return 0;
      }
      top--;
      return stack[top];
    }
  }

  /** A rail, as told and as it is now. */
  private static final class Rail {
    static final int MOST_SPRING = 20;
    static final int MOST_PLACE = 99;

    // By places, as a flight asks for it at every tick.
    private final int[] rust = new int[MOST_PLACE + 1];
    long name;
    int high;
    int puck;
    int spring;
    int best;
    int strikes;

    void tell(long newName, int newHigh, int newPuck, int newSpring) {
      name = newName;
      high = newHigh;
      puck = newPuck;
      spring = newSpring;
      best = 0;
      strikes = 0;
      for (int place = 0; place < rust.length; place++) {
        rust[place] = 0;
      }
    }

    void addRust(int from, int to, int by) {
      for (int place = 0; place < rust.length; place++) {
        if (place >= from && place <= to) {
          rust[place] += by;
        }
      }
    }

    int rustAt(int place) {
      return place >= 0 && place < rust.length ? rust[place] : 0;
    }

    void copyFrom(Rail from) {
      name = from.name;
      high = from.high;
      puck = from.puck;
      spring = from.spring;
      best = from.best;
      strikes = from.strikes;
      for (int place = 0; place < rust.length; place++) {
        rust[place] = from.rustAt(place);
      }
    }
  }

  /** A fist, as told and as it is now. */
  private static final class Fist {
    static final int MOST_SORE = 60;

    long name;
    int arm;
    int aim;
    int elbows;
    int sore;
    int purse;
    int strikes;
    int best;
    int bells;
    boolean struckThisRound;

    void tell(long newName, int newArm, int newAim, int newElbows) {
      name = newName;
      arm = newArm;
      aim = newAim;
      elbows = newElbows;
      sore = 0;
      purse = 0;
      strikes = 0;
      best = 0;
      bells = 0;
      struckThisRound = false;
    }

    int forceWithArm(int anArm) {
      int force = anArm + aim - sore;
      return force > 0 ? force : 0;
    }

    void endRound() {
      if (!struckThisRound) {
        sore = sore > 3 ? sore - 3 : 0;
      }
      struckThisRound = false;
    }

    void copyFrom(Fist from) {
      name = from.name;
      arm = from.arm;
      aim = from.aim;
      elbows = from.elbows;
      sore = from.sore;
      purse = from.purse;
      strikes = from.strikes;
      best = from.best;
      bells = from.bells;
      struckThisRound = from.struckThisRound;
    }
  }

  /** A prize; its worth and its test are steps of the contest's code, one behind the other. */
  private static final class Prize {
    long name;
    int left;
    int given;
    int worthFrom;
    int testFrom;
    int testTo;

    void tell(long newName, int newLeft, int newWorthFrom, int newTestFrom, int newTestTo) {
      name = newName;
      left = newLeft;
      given = 0;
      worthFrom = newWorthFrom;
      testFrom = newTestFrom;
      testTo = newTestTo;
    }

    void copyFrom(Prize from) {
      tell(from.name, from.left, from.worthFrom, from.testFrom, from.testTo);
      given = from.given;
    }
  }

  /** A turn; a test without steps is none. */
  private static final class Turn {
    int fist;
    int rail;
    int testFrom;
    int testTo;

    void tell(int newFist, int newRail, int newTestFrom, int newTestTo) {
      fist = newFist;
      rail = newRail;
      testFrom = newTestFrom;
      testTo = newTestTo;
    }

    void copyFrom(Turn from) {
      tell(from.fist, from.rail, from.testFrom, from.testTo);
    }
  }

  /** The heights of the latest strikes, the latest one first. */
  private static final class Board {
    private static final int MOST_HEIGHTS = 10;

    private final int[] heights = new int[MOST_HEIGHTS];
    int size;

    void add(int height) {
      for (int i = heights.length - 1; i > 0; i--) {
        heights[i] = heights[i - 1];
      }
      heights[0] = height;
      if (size < MOST_HEIGHTS) {
        size++;
      }
    }

    boolean has(int index) {
      return index >= 0 && index < size && index < heights.length;
    }

    int heightAt(int index) {
      return has(index) ? heights[index] : 0;
    }

    double meanHeight() {
      int sum = 0;
      for (int i = 0; i < size; i++) {
        sum += heightAt(i);
      }
      return size > 0 ? (double) sum / size : 0;
    }

    void copyFrom(Board from) {
      size = from.size;
      for (int i = 0; i < heights.length; i++) {
        heights[i] = from.heightAt(i);
      }
    }
  }

  /** The latest flight that was reckoned. */
  private static final class Flight {
    static final int MOST_TICKS = 300;
    private static final int FASTEST_FALL = -20;

    private final int[] places = new int[MOST_TICKS + 1];
    int height;
    int bells;
    int ticks;
    private int place;
    private int speed;
    private boolean over;

    void fly(Rail rail, int force) {
      height = 0;
      bells = 0;
      ticks = 0;
      place = 0;
      speed = rail.puck > 0 ? 4 * force / rail.puck : 0;
      over = speed == 0;
      for (int tick = 1; tick < places.length && !over; tick++) {
        move(rail);
        places[tick] = place;
        height = place > height ? place : height;
        ticks = tick;
      }
    }

    private void move(Rail rail) {
      place += speed;
      if (place >= rail.high) {
        place = rail.high;
        bells++;
        speed = -(speed * rail.spring / 20);
      } else if (place <= 0) {
        place = 0;
        speed = -speed * rail.spring / 30;
        over = speed <= 1;
      }
      if (speed > 0) {
        int slower = speed - 1 - rail.rustAt(place);
        speed = slower > 0 ? slower : 0;
      } else {
        speed = speed - 1 > FASTEST_FALL ? speed - 1 : FASTEST_FALL;
      }
    }

    int placeBehind(int tick) {
      return tick > 0 && tick <= ticks && tick < places.length ? places[tick] : 0;
    }
  }

  /** All that is told, and all that happened since. */
  private static final class Contest {
    static final int MOST_RAILS = 4;
    static final int MOST_RUSTS = 12;
    static final int MOST_FISTS = 8;
    static final int MOST_PRIZES = 8;
    static final int MOST_TURNS = 20;

    final Code code = new Code();
    final Board board = new Board();
    private final Flight flight = new Flight();
    private final Rail[] rails = new Rail[MOST_RAILS];
    private final Fist[] fists = new Fist[MOST_FISTS];
    private final Prize[] prizes = new Prize[MOST_PRIZES];
    private final Turn[] turns = new Turn[MOST_TURNS];
    // The numbers of the turns, as they stand in the row.
    private final int[] row = new int[MOST_TURNS];
    int railCount;
    int rustCount;
    int fistCount;
    int prizeCount;
    int turnCount;
    int round;
    int height;
    private int bells;
    int strikes;
    int bellsInAll;
    int given;

    Contest() {
      for (int i = 0; i < rails.length; i++) {
        rails[i] = new Rail();
      }
      for (int i = 0; i < fists.length; i++) {
        fists[i] = new Fist();
      }
      for (int i = 0; i < prizes.length; i++) {
        prizes[i] = new Prize();
      }
      for (int i = 0; i < turns.length; i++) {
        turns[i] = new Turn();
      }
    }

    void clear() {
      code.size = 0;
      board.size = 0;
      railCount = 0;
      rustCount = 0;
      fistCount = 0;
      prizeCount = 0;
      turnCount = 0;
      round = 0;
      height = 0;
      bells = 0;
      strikes = 0;
      bellsInAll = 0;
      given = 0;
    }

    void copyFrom(Contest from) {
      code.copyFrom(from.code);
      board.copyFrom(from.board);
      for (int i = 0; i < rails.length && i < from.rails.length; i++) {
        rails[i].copyFrom(from.rails[i]);
      }
      for (int i = 0; i < fists.length && i < from.fists.length; i++) {
        fists[i].copyFrom(from.fists[i]);
      }
      for (int i = 0; i < prizes.length && i < from.prizes.length; i++) {
        prizes[i].copyFrom(from.prizes[i]);
      }
      for (int i = 0; i < turns.length && i < from.turns.length; i++) {
        turns[i].copyFrom(from.turns[i]);
        row[i] = from.row[i];
      }
      copyNumbers(from);
    }

    private void copyNumbers(Contest from) {
      railCount = from.railCount;
      rustCount = from.rustCount;
      fistCount = from.fistCount;
      prizeCount = from.prizeCount;
      turnCount = from.turnCount;
      round = from.round;
      height = from.height;
      bells = from.bells;
      strikes = from.strikes;
      bellsInAll = from.bellsInAll;
      given = from.given;
    }

    boolean hasRail(int index) {
      return index >= 0 && index < railCount && index < rails.length;
    }

    boolean hasFist(int index) {
      return index >= 0 && index < fistCount && index < fists.length;
    }

    boolean hasPrize(int index) {
      return index >= 0 && index < prizeCount && index < prizes.length;
    }

    boolean hasTurn(int index) {
      return index >= 0 && index < turnCount && index < turns.length;
    }

    int railNamed(long name) {
      for (int i = 0; i < railCount && i < rails.length; i++) {
        if (rails[i].name == name) {
          return i;
        }
      }
      return -1;
    }

    int fistNamed(long name) {
      for (int i = 0; i < fistCount && i < fists.length; i++) {
        if (fists[i].name == name) {
          return i;
        }
      }
      return -1;
    }

    int prizeNamed(long name) {
      for (int i = 0; i < prizeCount && i < prizes.length; i++) {
        if (prizes[i].name == name) {
          return i;
        }
      }
      return -1;
    }

    void addRail(long name, int high, int puck, int spring) {
      if (railCount < rails.length) {
        rails[railCount].tell(name, high, puck, spring);
        railCount++;
      }
    }

    void addRust(int rail, int from, int to, int by) {
      if (hasRail(rail)) {
        rails[rail].addRust(from, to, by);
        rustCount++;
      }
    }

    void addFist(long name, int arm, int aim, int elbows) {
      if (fistCount < fists.length) {
        fists[fistCount].tell(name, arm, aim, elbows);
        fistCount++;
      }
    }

    void addPrize(long name, int left, int worthFrom, int testFrom, int testTo) {
      if (prizeCount < prizes.length) {
        prizes[prizeCount].tell(name, left, worthFrom, testFrom, testTo);
        prizeCount++;
      }
    }

    void addTurn(int fist, int rail, int testFrom, int testTo) {
      if (turnCount < turns.length && turnCount < row.length) {
        turns[turnCount].tell(fist, rail, testFrom, testTo);
        row[turnCount] = turnCount;
        turnCount++;
      }
    }

    int tellCountOf(int what) {
      switch (what) {
        case 0:
          return round;
        case 1:
          return railCount;
        case 2:
          return fistCount;
        case 3:
          return prizeCount;
        case 4:
          return turnCount;
        case 5:
          return strikes;
        case 6:
          return bellsInAll;
        case 7:
          return allPurses();
        default:
          return board.size;
      }
    }

    int tellRail(int index, int what) {
      if (!hasRail(index)) {
        return 0;
      }
      Rail rail = rails[index];
      switch (what) {
        case 0:
          return rail.high;
        case 1:
          return rail.puck;
        case 2:
          return rail.spring;
        case 3:
          return rail.best;
        default:
          return rail.strikes;
      }
    }

    int tellFist(int index, int what) {
      if (!hasFist(index)) {
        return 0;
      }
      Fist fist = fists[index];
      switch (what) {
        case 0:
          return fist.arm;
        case 1:
          return fist.aim;
        case 2:
          return fist.elbows;
        case 3:
          return fist.sore;
        case 4:
          return fist.purse;
        case 5:
          return fist.strikes;
        case 6:
          return fist.best;
        case 7:
          return fist.bells;
        default:
          return placeOfPurse(fist.purse);
      }
    }

    private int placeOfPurse(int purse) {
      int place = 1;
      for (int i = 0; i < fistCount && i < fists.length; i++) {
        if (fists[i].purse > purse) {
          place++;
        }
      }
      return place;
    }

    int tellPrize(int index, int what) {
      if (!hasPrize(index)) {
        return 0;
      }
      Prize prize = prizes[index];
      switch (what) {
        case 0:
          return prize.left;
        case 1:
          return prize.given;
        case 2:
          return code.reckon(prize.worthFrom, prize.testFrom, this);
        default:
          return code.reckon(prize.testFrom, prize.testTo, this);
      }
    }

    int tellTurn(int index, int what) {
      if (!hasTurn(index)) {
        return 0;
      }
      Turn turn = turns[index];
      switch (what) {
        case 0:
          return turn.fist;
        case 1:
          return turn.rail;
        case 2:
          return placeInRow(index);
        default:
          return isDue(turn) ? 1 : 0;
      }
    }

    private int placeInRow(int turn) {
      int place = 0;
      for (int i = 0; i < turnCount && i < row.length; i++) {
        if (row[i] == turn) {
          place = i;
        }
      }
      return place;
    }

    int allPurses() {
      int sum = 0;
      for (int i = 0; i < fistCount && i < fists.length; i++) {
        sum += fists[i].purse;
      }
      return sum;
    }

    private boolean isDue(Turn turn) {
      return turn.testFrom == turn.testTo
          || code.reckon(turn.testFrom, turn.testTo, this) != 0;
    }

    /** What a word of the language tells now. */
    int reading(int kind, int index) {
      switch (kind) {
        case HEIGHT:
          return height;
        case BELLS:
          return bells;
        case ROUND:
          return round;
        case RINGS:
          return bells > 0 ? 1 : 0;
        case PURSE:
          return hasFist(index) ? fists[index].purse : 0;
        case SORE:
          return hasFist(index) ? fists[index].sore : 0;
        case BEST:
          return hasRail(index) ? rails[index].best : 0;
        default:
          return hasPrize(index) ? prizes[index].left : 0;
      }
    }

    Flight flightOf(int fist, int rail) {
      return flightWithArm(fist, rail, hasFist(fist) ? fists[fist].arm : 0);
    }

    Flight flightWithArm(int fist, int rail, int arm) {
      if (hasFist(fist) && hasRail(rail)) {
        flight.fly(rails[rail], fists[fist].forceWithArm(arm));
      }
      return flight;
    }

    int changeSpring(int rail, int spring) {
      if (!hasRail(rail)) {
        return 0;
      }
      int before = rails[rail].spring;
      rails[rail].spring = spring;
      return before;
    }

    void hit(int fistIndex, int railIndex) {
      if (!hasFist(fistIndex) || !hasRail(railIndex)) {
        return;
      }
      Fist fist = fists[fistIndex];
      Rail rail = rails[railIndex];
      flight.fly(rail, fist.forceWithArm(fist.arm));
      height = flight.height;
      bells = flight.bells;
      strikes++;
      bellsInAll += bells;
      board.add(height);
      rail.strikes++;
      rail.best = height > rail.best ? height : rail.best;
      fist.strikes++;
      fist.best = height > fist.best ? height : fist.best;
      fist.bells += bells;
      fist.struckThisRound = true;
      int sorer = fist.sore + rail.puck;
      fist.sore = sorer < Fist.MOST_SORE ? sorer : Fist.MOST_SORE;
      giveTo(fist);
    }

    private void giveTo(Fist fist) {
      for (int i = 0; i < prizeCount && i < prizes.length; i++) {
        Prize prize = prizes[i];
        if (prize.left > 0 && code.reckon(prize.testFrom, prize.testTo, this) != 0) {
          prize.left--;
          prize.given++;
          given++;
          fist.purse += code.reckon(prize.worthFrom, prize.testFrom, this);
          return;
        }
      }
    }

    void play(int rounds) {
      for (int n = 0; n < rounds; n++) {
        useElbows();
        takeTurns();
        for (int i = 0; i < fistCount && i < fists.length; i++) {
          fists[i].endRound();
        }
        round++;
      }
    }

    private void useElbows() {
      for (int place = 1; place < turnCount && place < row.length; place++) {
        int behind = fistInRow(place);
        int ahead = fistInRow(place - 1);
        boolean bothThere = hasFist(behind) && hasFist(ahead);
        if (bothThere && fists[behind].elbows > fists[ahead].elbows + 2) {
          int turn = row[place];
          row[place] = row[place - 1];
          row[place - 1] = turn;
          fists[behind].elbows--;
        }
      }
    }

    private void takeTurns() {
      for (int place = 0; place < turnCount && place < row.length; place++) {
        int turn = row[place];
        if (hasTurn(turn) && isDue(turns[turn])) {
          hit(turns[turn].fist, turns[turn].rail);
        }
      }
    }

    private int fistInRow(int place) {
      return place >= 0 && place < row.length && hasTurn(row[place])
          ? turns[row[place]].fist
          : -1;
    }

    long digestBehind(long start) {
      long d = start;
      for (int i = 0; i < railCount && i < rails.length; i++) {
        for (int what = 0; what <= 4; what++) {
          d = d * 31 + tellRail(i, what);
        }
      }
      for (int i = 0; i < fistCount && i < fists.length; i++) {
        for (int what = 0; what <= 8; what++) {
          d = d * 31 + tellFist(i, what);
        }
      }
      for (int i = 0; i < prizeCount && i < prizes.length; i++) {
        for (int what = 0; what <= 3; what++) {
          d = d * 31 + tellPrize(i, what);
        }
      }
      for (int i = 0; i < turnCount && i < turns.length; i++) {
        for (int what = 0; what <= 3; what++) {
          d = d * 31 + tellTurn(i, what);
        }
      }
      for (int i = 0; i < board.size; i++) {
        d = d * 31 + board.heightAt(i);
      }
      return d;
    }
  }
}
