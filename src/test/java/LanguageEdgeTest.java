import java.math.BigInteger;

/** The edges of "Terms" and of "1. The language": sums, the tape, tokens, depth, errors 1 to 6. */
public final class LanguageEdgeTest extends Edge {
  private static final String RAIL = "rail a high 20 puck 4 spring 10;";
  private static final String FIST = "fist f arm 5 aim 0 elbows 0;";
  private static final String PRIZE = "prize p worth 1 of 1 when rings;";
  private static final String RUST = "rust on a from 1 to 1 by 1;";
  private static final String TURN = "turn f at a;";
  private static final String LEAST = "(65536 * 32768)";
  private static final String MOST = "(65536 * 32768 - 1)";
  private static final String TOKENS =
      "rail high puck spring rust on from to by fist arm aim elbows prize worth of when turn at "
          + "height bells round purse sore best left rings not and or min max name 7 "
          + "( ) [ ] ; , + - * / < > = <= >=";
  private static final String VALUES = "7 height bells round purse sore best left - ( min max ";
  private static final String TESTS = VALUES + "not [ rings ";
  private static final String GO_ON = "+ - * / ";

  public static void main(String[] args) {
    wrapsAround();
    pursesWrapAround();
    divides();
    countsPositions();
    tellsTime();
    fillsTheTape();
    emptiesTheTape();
    takesBlanks();
    needsBlanks();
    readsTheLongestToken();
    readsWords();
    readsNumbers();
    readsSymbols();
    knowsKeywords();
    repeatsAndLeavesOut();
    limitsDepth();
    comesBackFromDepth();
    followsTheGrammarOfLines();
    followsTheGrammarOfSums();
    followsTheGrammarOfTests();
    followsTheGrammarAtDepth8();
    tellsError1First();
    refusesByteAndLongToken();
    refusesTheEnd();
    refusesToken401();
    looksFromLeftToRight();
    tellsTheSmallestError();
    tellsError2();
    tellsError3();
    tellsError4();
    tellsError5();
    tellsError6();
    numbersFrom0();
    end();
  }

  // ---- Terms

  private static void wrapsAround() {
    sentence(9, "All numbers are whole; sums, differences and products of the language, and purses,"
        + " wrap around in 32 bits");
    worthIs(LEAST, Integer.MIN_VALUE);
    worthIs(MOST, Integer.MAX_VALUE);
    worthIs(MOST + " + 0", Integer.MAX_VALUE);
    worthIs(MOST + " + 1", Integer.MIN_VALUE);
    worthIs(MOST + "+" + MOST, -2);
    worthIs(LEAST + "+" + LEAST, 0);
    worthIs(LEAST + " - 0", Integer.MIN_VALUE);
    worthIs(LEAST + " - 1", Integer.MAX_VALUE);
    worthIs("0 - " + LEAST, Integer.MIN_VALUE);
    worthIs("-" + LEAST, Integer.MIN_VALUE);
    worthIs("-" + MOST, -Integer.MAX_VALUE);
    worthIs(MOST + " - -1", Integer.MIN_VALUE);
    worthIs(LEAST + " - " + MOST, 1);
    worthIs("65536 * 32767", 2147418112);
    worthIs("46340 * 46340", 2147395600);
    worthIs("46341 * 46341", -2147479015);
    worthIs("65536 * 65536", 0);
    worthIs("65535 * 65537", -1);
    worthIs(LEAST + " * -1", Integer.MIN_VALUE);
    worthIs(MOST + " * " + MOST, 1);
    worthIs("999999 * 999999", BigInteger.valueOf(999999).pow(2).intValue());
    worthIs("min(" + LEAST + "," + MOST + ")", Integer.MIN_VALUE);
    worthIs("max(" + LEAST + "," + MOST + ")", Integer.MAX_VALUE);
    worthIs("min(" + MOST + "," + LEAST + ")", Integer.MIN_VALUE);
    worthIs("max(" + MOST + "," + LEAST + ")", Integer.MAX_VALUE);
    worthIs("min(" + MOST + " + 1, 0)", Integer.MIN_VALUE);
    worthIs("max(0, " + LEAST + " - 1)", Integer.MAX_VALUE);
    holds(LEAST + "<" + MOST);
    holds(MOST + " + 1 < 0");
    holds(LEAST + " - 1 > 0");
    holdsNot(LEAST + ">=" + MOST);
    holds(MOST + " + 1 = " + LEAST);
  }

  private static void pursesWrapAround() {
    sentence(8, "purses, wrap around in 32 bits");
    String fair = RAIL + FIST + "fist g arm 5 aim 0 elbows 0;";
    BellHammer x = taught(fair + "prize p worth " + MOST + " of 9 when height >= 0; turn f at a;");
    x.strike(0, 0);
    due(x.fist(0, 4), Integer.MAX_VALUE, "the greatest purse");
    due(x.foresee(1, 1), -2, "foresee of a purse that wraps around");
    x.strike(0, 0);
    due(x.fist(0, 4), -2, "a purse that wraps around");
    due(x.fist(0, 8), 2, "the place of a purse that wraps around, behind one of 0");
    due(x.fist(1, 8), 1, "the place of a purse of 0");
    x.strike(1, 0);
    due(x.count(7), Integer.MAX_VALUE - 2, "all purses");
    x.strike(0, 0);
    due(x.fist(0, 4), Integer.MAX_VALUE - 2, "a purse that wraps around twice");
    due(x.count(7), -4, "all purses wrap around");
    BellHammer y = taught(fair + "prize p worth " + MOST + " of 1 when height >= 0;"
        + "prize q worth 1 of 1 when height >= 0; prize r worth 0 - 1 of 1 when height >= 0;");
    y.strike(0, 0);
    y.strike(0, 0);
    due(y.fist(0, 4), Integer.MIN_VALUE, "one more than the greatest purse");
    y.strike(0, 0);
    due(y.fist(0, 4), Integer.MAX_VALUE, "one less than the least purse");
  }

  private static void divides() {
    sentence(9, "/ is cut towards 0, gives 0 with 0 on the right side,"
        + " and -2147483648 / -1 gives -2147483648");
    worthIs("7 / 2", 3);
    worthIs("-7 / 2", -3);
    worthIs("7 / -2", -3);
    worthIs("-7 / -2", 3);
    worthIs("6 / 2", 3);
    worthIs("-1 / 2", 0);
    worthIs("1 / -2", 0);
    worthIs("-2 / 2", -1);
    worthIs(MOST + " / 2", 1073741823);
    worthIs(LEAST + " / 3", -715827882);
    worthIs("5 / 0", 0);
    worthIs("0 / 0", 0);
    worthIs("-5 / 0", 0);
    worthIs(LEAST + " / 0", 0);
    worthIs("5 / (3 - 3) * 7 + 1", 1);
    worthIs("5 / 1", 5);
    worthIs("0 / 5", 0);
    worthIs(LEAST + " / -1", Integer.MIN_VALUE);
    worthIs(LEAST + " / 1", Integer.MIN_VALUE);
    worthIs(MOST + " / -1", -Integer.MAX_VALUE);
    worthIs("(" + LEAST + " + 1) / -1", Integer.MAX_VALUE);
    worthIs(LEAST + " / " + LEAST, 1);
    holds("1 / 0 = 0 and 1 / bells = 0");
    BellHammer x = taught(RAIL + FIST + "prize p worth 9 / bells of 2 when 7 / bells = 0;");
    x.strike(0, 0);
    due(x.prize(0, 1), 1, "a prize whose test and worth divide by 0");
    due(x.fist(0, 4), 0, "the purse behind a worth that divides by 0");
  }

  private static void countsPositions() {
    sentence(5, "Positions of the tape are counted from 0, in bytes.");
    refused(1, "@?");
    refused(1, " @?");
    refused(1, "\n\n@?");
    refused(1, RAIL + "@?");
    refused(1, " ".repeat(1999) + "@?");
    refused(2, RAIL + "\n rail  @a high 20 puck 4 spring 10;");
  }

  private static void tellsTime() {
    sentence(6, "Time is told in rounds, from 0.");
    BellHammer x = taught(RAIL + FIST + "prize p worth 7 of 9 when round = 0;"
        + "prize q worth round + 1 of 99 when round > 0; turn f at a;");
    due(x.count(0), 0, "the first round");
    due(x.pass(1), 1, "prizes of the first round");
    due(x.prize(0, 1), 1, "prizes in the round 0");
    due(x.count(0), 1, "the second round");
    x.pass(1);
    due(x.prize(0, 1), 1, "prizes in the round 0 behind the second round");
    due(x.count(7), 9, "7 in the round 0 and 2 in the round 1");
    due(x.count(0), 2, "the third round");
  }

  // ---- 1. The language: the tape

  private static void fillsTheTape() {
    sentence(2, "The tape is a row of at most 2000 bytes, at first empty, which feed and trim fill");
    BellHammer x = new BellHammer();
    due(x.count(9), 0, "bytes of the first tape");
    due(x.teach(), 0, "teach of the first tape");
    int blanks = 0x20202020;
    for (int i = 1; i <= 100; i++) {
      due(x.feed(blanks, blanks, blanks, blanks, blanks), 20 * i, "feed");
    }
    illegalState("a feed beyond 2000", x, y -> y.feed(blanks, blanks, blanks, blanks, blanks));
    due(x.count(9), 2000, "bytes of a full tape");
    due(x.teach(), 0, "teach of a tape that is full of blanks");
    accepted(RAIL + " ".repeat(2000 - RAIL.length()));
    accepted(" ".repeat(2000 - RAIL.length()) + RAIL);
    refused(1, " ".repeat(2000 - RAIL.length()) + RAIL.replace(";", "") + "@?");
    answers(1, 2000, " ".repeat(2001 - RAIL.length()) + RAIL.replace(";", ""));
    due(taught(" ".repeat(2000 - FIST.length()) + FIST).fist(0, 0), 5, "a bill in the last bytes");
  }

  private static void emptiesTheTape() {
    sentence(4, "teach reads it as a bill, and it is empty behind it.");
    BellHammer x = new BellHammer();
    due(teach(x, RAIL), 0, "teach of a bill");
    due(x.count(9), 0, "bytes behind a bill");
    due(x.count(1), 1, "rails");
    due(teach(x, FIST + "rail"), 1, "teach with an error 1");
    due(x.count(9), 0, "bytes behind an error 1");
    due(teach(x, FIST + FIST), 2, "teach with an error 2");
    due(x.count(9), 0, "bytes behind an error 2");
    due(x.count(1), 1, "rails behind errors");
    due(x.feed(0x20202020, 0x20202020, 0x20202020, 0x20202020, 0x20202020), 20, "feed anew");
    due(x.teach(), 0, "nothing of the bills ahead is read again");
    due(x.count(1), 0, "rails of a bill of blanks");
    BellHammer full = new BellHammer();
    feedText(full, "?".repeat(2000));
    full.teach();
    due(teach(full, " ".repeat(2000 - RAIL.length()) + RAIL), 0, "a full tape behind a full tape");
    due(full.count(1), 1, "rails of the second full tape");
    BellHammer again = new BellHammer();
    String most = worth("1" + "+1".repeat(195));
    for (int i = 0; i < 5; i++) {
      due(teach(again, most), 0, "teach of as many tokens as can be, once more");
      due(again.prize(0, 2), 196, "a worth of as many tokens as can be, once more");
      due(teach(again, RAIL + RUST.repeat(12)), 0, "teach of 12 rusts, once more");
      due(teach(again, RAIL + FIST + TURN.repeat(20) + "rail"), 1, "an error behind 20 turns");
      due(teach(again, most + "rail"), 1, "an error behind as many tokens as can be");
    }
  }

  // ---- 1. The language: tokens

  private static void takesBlanks() {
    sentence(4, "Blanks (32) and line ends (10) can stand between tokens,"
        + " at the beginning and at the end");
    accepted("");
    accepted(" ");
    accepted("\n");
    accepted(" \n \n ");
    accepted("\n " + RAIL);
    accepted(RAIL + " \n");
    accepted(RAIL + " \n " + FIST);
    accepted(RAIL.replace(" ", "\n").replace(";", "\n;\n"));
    for (int sign = 0; sign < 256; sign++) {
      String bill = "rail" + (char) sign + "a high 20 puck 4 spring 10;";
      if (sign == 32 || sign == 10) {
        accepted(bill);
      } else {
        answers(1, isWordly(sign) ? 0 : 4, bill);
      }
    }
  }

  private static void needsBlanks() {
    sentence(4, "have to stand between two tokens that would otherwise be read as one");
    refused(1, "@raila high 20 puck 4 spring 10;");
    refused(1, "rail ahigh @20 puck 4 spring 10;");
    refused(1, "rail a @high20 puck 4 spring 10;");
    refused(1, "rail a high 20 @puck4 spring 10;");
    accepted("rail a high 20puck 4spring 10;");
    accepted("rail a high 20puck\n4spring\n10;rail b high 20puck 4spring 10;");
    refused(1, "turn f at awhen @rings;");
    refused(1, when("@notrings"));
    refused(1, when("rings @orrings"));
    refused(1, when("1 < @=2"));
    refused(1, when("1 > \n@=2"));
    accepted(when("1<=2and 2>=1or rings"));
    accepted("prize p worth-(1+-2)*3of 1when[not[1<2]]and-1<-2;");
    accepted(when("min(1,2)<max(3,4)"));
  }

  private static void readsTheLongestToken() {
    sentence(4, "The longest possible token is always read.");
    accepted(when("1<=2"));
    accepted(when("2>=1"));
    refused(1, when("1<=@=2"));
    refused(1, when("1=@<2"));
    refused(1, when("1=@>2"));
    refused(1, when("1=@=2"));
    refused(1, when("1<@>2"));
    refused(1, when("1<@<2"));
    holds("1<=1");
    holdsNot("2<=1");
    holds("2>=2");
    holdsNot("1>=2");
    accepted("rail railrail high 20 puck 4 spring 10;");
    accepted("rail high20 high 20 puck 4 spring 10;");
    accepted("rail minmax high 20 puck 4 spring 10;");
    refused(1, "prize p worth 1 @of1 when rings;");
    due(taught(FIST.replace("5", "12")).fist(0, 0), 12, "12 is one number");
    worthIs("123456", 123456);
  }

  private static void readsWords() {
    sentence(4, "A word: a letter a to z, followed by letters a to z and digits, at most 10 bytes.");
    for (int sign = 0; sign < 256; sign++) {
      String first = "rail " + (char) sign + " high 20 puck 4 spring 10;";
      String second = "rail z" + (char) sign + " high 20 puck 4 spring 10;";
      boolean blank = sign == 32 || sign == 10;
      boolean letter = sign >= 'a' && sign <= 'z';
      answers(letter ? 0 : 1, letter ? -1 : blank ? 7 : 5, first);
      answers(isWordly(sign) || blank ? 0 : 1, isWordly(sign) || blank ? -1 : 6, second);
    }
    accepted("rail a high 20 puck 4 spring 10;");
    accepted("rail abcdefghij high 20 puck 4 spring 10;");
    accepted("rail z234567890 high 20 puck 4 spring 10;");
    refused(1, "rail @abcdefghijk high 20 puck 4 spring 10;");
    refused(1, "rail @z2345678901 high 20 puck 4 spring 10;");
    refused(1, "rail @" + "a".repeat(100) + " high 20 puck 4 spring 10;");
    accepted("rail abcdefghij high 20 puck 4 spring 1;rail abcdefghik high 20 puck 4 spring 1;");
    refused(2, "rail abcdefghij high 20 puck 4 spring 1;rail @abcdefghij high 20 puck 4 spring 1;");
    accepted("rail zzzzzzzzzz high 20 puck 4 spring 1;rail z999999999 high 20 puck 4 spring 1;"
        + "rail zzzzzzzzz high 20 puck 4 spring 1;rail z high 20 puck 4 spring 1;");
    // Words that a careless way to count their letters and digits would take for the same.
    alike("a", "aa", "aaa", "a1", "a11", "a1a", "aa1");
    alike("az", "a0", "dl", "b0", "aj", "a9", "ba", "ak");
    alike("abcdefghi", "abcdefghia", "abcdefghib", "abcdefgh", "bcdefghi", "abcdefghi0");
    alike("rail1", "rails", "rai", "ral", "rali", "lrai", "rial");
  }

  /** All these names are taken for different ones, and each for the same one when it is read. */
  private static void alike(String... names) {
    StringBuilder bill = new StringBuilder(RAIL);
    for (String name : names) {
      bill.append("fist " + name + " arm 5 aim 0 elbows 0;");
    }
    for (String name : names) {
      bill.append("turn " + name + " at a;");
    }
    BellHammer x = taught(bill.toString());
    for (int i = 0; i < names.length; i++) {
      due(x.turn(i, 0), i, "the fist of the turn of " + names[i]);
      refused(2, bill + "fist @" + names[i] + " arm 5 aim 0 elbows 0;");
    }
  }

  private static void readsNumbers() {
    sentence(4, "A number: 1 to 6 digits.");
    for (int sign = 0; sign < 256; sign++) {
      boolean digit = sign >= '0' && sign <= '9';
      boolean blank = sign == 32 || sign == 10;
      String bill = "rail a high 2" + (char) sign + " puck 4 spring 10;";
      answers(digit ? 0 : blank ? 5 : 1, digit ? -1 : blank ? 12 : 13, bill);
    }
    worthIs("0", 0);
    worthIs("9", 9);
    worthIs("999999", 999999);
    worthIs("100000", 100000);
    worthIs("000000", 0);
    worthIs("000009", 9);
    refused(1, worth("@1000000"));
    refused(1, worth("@0000000"));
    refused(1, worth("@0000001"));
    refused(1, worth("@99999999999999999999"));
    refused(1, "rail a high @0000020 puck 4 spring 10;");
    accepted("rail a high 000020 puck 4 spring 10;");
    due(taught("rail a high 000020 puck 09 spring 007;").rail(0, 0), 20, "000020");
  }

  private static void readsSymbols() {
    sentence(4, "Symbols: ( ) [ ] ; , + - * / < > = <= >=");
    worthIs("(7)", 7);
    worthIs("1+2", 3);
    worthIs("1-2", -1);
    worthIs("3*2", 6);
    worthIs("7/2", 3);
    worthIs("min(3,2)", 2);
    holds("[1<2]");
    holds("2>1");
    holds("1=1");
    holds("1<=2");
    holds("2>=1");
    for (int sign = 0; sign < 256; sign++) {
      boolean joins = "+-*/".indexOf(sign) >= 0;
      boolean open = "<>=".indexOf(sign) >= 0;
      String test = "prize p worth 1 of 1 when 1" + (char) sign + "2 < 3;";
      boolean digit = sign >= '0' && sign <= '9';
      boolean blank = sign == 32 || sign == 10;
      int at = open ? 30 : blank ? 28 : 27;
      answers(joins || digit ? 0 : 1, joins || digit ? -1 : at, test);
    }
  }

  private static void knowsKeywords() {
    sentence(4, "The keywords are: rail high puck spring rust on from to by fist arm aim elbows"
        + " prize worth of when turn at height bells round purse sore best left rings not and or"
        + " min max. All other words are names.");
    String[] keywords = TOKENS.substring(0, TOKENS.indexOf(" name")).split(" ");
    due(keywords.length, 32, "keywords");
    for (String keyword : keywords) {
      refused(1, "rail @" + keyword + " high 20 puck 4 spring 10;");
      refused(1, "turn @" + keyword + " at a;");
      for (String name : new String[] {keyword + "x", keyword + "0", "x" + keyword}) {
        accepted("rail " + name + " high 20 puck 4 spring 10;");
      }
      String shorter = keyword.substring(0, keyword.length() - 1);
      accepted("rail " + shorter + " high 20 puck 4 spring 10;");
    }
    for (String name : "tests bill line sum value and1 name number tick bell fists".split(" ")) {
      accepted("rail " + name + " high 20 puck 4 spring 10;");
    }
  }

  private static boolean isWordly(int sign) {
    return sign >= 'a' && sign <= 'z' || sign >= '0' && sign <= '9';
  }

  // ---- 1. The language: grammar and depth

  private static void repeatsAndLeavesOut() {
    sentence(4, "[ x ] outside of quotation marks means x or nothing, { x } x any number of times,"
        + " also none, and | separates alternatives");
    accepted("");
    accepted(RAIL);
    accepted(RAIL + FIST + PRIZE + RUST + TURN);
    accepted(RAIL + FIST + TURN + "turn f at a when rings;" + TURN);
    for (int more : new int[] {0, 1, 2, 194}) {
      worthIs("1" + "+1".repeat(more), 1 + more);
      worthIs("1" + "-1".repeat(more), 1 - more);
      worthIs("1" + "*1".repeat(more), 1);
      worthIs("8" + "/1".repeat(more), 8);
      holdsNot("rings" + " or rings".repeat(more));
      holdsNot("rings" + " and rings".repeat(more));
      holds("rings or ".repeat(more) + "1=1");
    }
  }

  private static void limitsDepth() {
    sentence(4, "Depth. It is 0 at the beginning, and 1 greater between a ( and its ), a [ and its"
        + " ], behind a - in front (of a value) for what it turns, and behind a not for what it"
        + " turns. It may be at most 8.");
    accepted(worth("((((((((1))))))))"));
    refused(1, worth("((((((((@(1)))))))))"));
    accepted(when("[[[[[[[[rings]]]]]]]]"));
    refused(1, when("[[[[[[[[@[rings]]]]]]]]]"));
    worthIs("--------1", 1);
    refused(1, worth("--------@-1"));
    worthIs("1---------1", 0);
    refused(1, worth("1---------@-1"));
    accepted(when("not not not not not not not not rings"));
    refused(1, when("not not not not not not not not @not rings"));
    accepted(worth("min(1,".repeat(8) + "1" + ")".repeat(8)));
    refused(1, worth("min(1,".repeat(8) + "max@(1,1)" + ")".repeat(8)));
    accepted(worth("max(".repeat(8) + "1" + ",1)".repeat(8)));
    refused(1, worth("max(".repeat(8) + "min@(1,1)" + ",1)".repeat(8)));
    accepted(RAIL + FIST + "turn f at a when " + "[".repeat(8) + "rings" + "]".repeat(8) + ";");
    refused(1, "turn f at a when " + "[".repeat(8) + "@[rings" + "]".repeat(9) + ";");
    holds("not [not [-(min(-2,3))=2]]");
    refused(1, when("not [not [-(min(-@(2),3))=2]]"));
    refused(1, when("not [not [-(min(-@-2,3))=2]]"));
    refused(1, when("not [not [-(min(-min@(2,2),3))=2]]"));
  }

  private static void comesBackFromDepth() {
    sentence(4, "between a ( and its ), a [ and its ], behind a - in front (of a value) for what it"
        + " turns, and behind a not for what it turns");
    String deep = "((((((((1))))))))";
    String deepTest = "[[[[[[[[1=1]]]]]]]]";
    worthIs(deep + "+" + deep + "*" + deep, 2);
    worthIs("(1)*(2)-" + deep, 1);
    worthIs("-1+" + deep, 0);
    worthIs("-2*" + deep, -2);
    worthIs("-height-" + deep, -1);
    worthIs("-min(1,2)+" + deep, 0);
    worthIs("1-" + deep, 0);
    refused(1, worth("-(((((((@(1))))))))"));
    refused(1, worth("1--(((((((@(1))))))))"));
    worthIs("min(1,(((((((1))))))))+" + deep, 2);
    refused(1, worth("min((((((((@(1)))))))),1)"));
    refused(1, worth("min(1,(((((((@(1)))))))))"));
    holds(deepTest + " and " + deepTest + " or " + deepTest);
    holds("not rings and " + deepTest);
    holds("not [rings] and " + deepTest);
    holds("not 1=2 and " + deep + "=1");
    refused(1, when("not [[[[[[[@[rings]]]]]]]]"));
    refused(1, when("not 1=(((((((@(1))))))))"));
    holds("not 2=(((((((1)))))))");
    holds("not 2=-------1");
    refused(1, when("not 2=-------@-1"));
    holds("not 2=1 and 1=--------1");
  }

  /** With each start all tokens are tried: those that may follow, and all others. */
  private static void follow(String start, String allowed) {
    for (String token : TOKENS.split(" ")) {
      boolean good = (" " + allowed + " ").contains(" " + token + " ");
      String bill = start + " " + token + (token.equals(";") ? " rail" : "");
      answers(1, good ? bill.length() : start.length() + 1, bill);
    }
  }

  /** Each token of the line may follow those ahead of it, and no other one may. */
  private static void followOneByOne(String line) {
    StringBuilder start = new StringBuilder();
    for (String token : line.split(" ")) {
      if (start.length() > 0) {
        String sort = token.matches("[0-9]+") ? "7" : token.length() == 1 ? "name" : token;
        follow(start.toString(), sort);
        start.append(' ');
      }
      start.append(token);
    }
    follow(start.toString(), ";");
  }

  private static void followsTheGrammarOfLines() {
    sentence(4, "Error 1: the first token with which the tokens so far are not the beginning of a"
        + " bill.");
    String starts = "rail rust fist prize turn";
    follow("", starts);
    follow(RAIL, starts);
    follow(FIST, starts);
    follow(RAIL + RUST, starts);
    follow(PRIZE, starts);
    follow(RAIL + FIST + TURN, starts);
    followOneByOne("rail a high 20 puck 4 spring 10");
    followOneByOne("rust on a from 1 to 2 by 3");
    followOneByOne("fist f arm 5 aim 0 elbows 0");
    follow("prize", "name");
    follow("prize p", "worth");
    follow("prize p worth", VALUES);
    follow("prize p worth 1", GO_ON + "of");
    follow("prize p worth 1 of", "7");
    follow("prize p worth 1 of 1", "when");
    follow("prize p worth 1 of 1 when", TESTS);
    follow("turn", "name");
    follow("turn f", "at");
    follow("turn f at", "name");
    follow("turn f at a", "when ;");
    follow("turn f at a when", TESTS);
  }

  private static void followsTheGrammarOfSums() {
    sentence(4, "sum = product { ( \"+\" | \"-\" ) product }");
    for (String word : "height bells round".split(" ")) {
      follow("prize p worth " + word, GO_ON + "of");
    }
    for (String word : "purse sore best left".split(" ")) {
      follow("prize p worth " + word, "name");
      follow("prize p worth " + word + " n", GO_ON + "of");
    }
    for (String sign : "+ - * / - - (".split(" ")) {
      follow("prize p worth 1 " + sign.replace("(", "+ ("), VALUES);
    }
    follow("prize p worth -", VALUES);
    follow("prize p worth (", VALUES);
    follow("prize p worth ( 1", GO_ON + ")");
    follow("prize p worth ( 1 )", GO_ON + "of");
    for (String word : "min max".split(" ")) {
      follow("prize p worth " + word, "(");
      follow("prize p worth " + word + " (", VALUES);
      follow("prize p worth " + word + " ( 1", GO_ON + ",");
      follow("prize p worth " + word + " ( 1 ,", VALUES);
      follow("prize p worth " + word + " ( 1 , 2", GO_ON + ")");
      follow("prize p worth " + word + " ( 1 , 2 )", GO_ON + "of");
    }
  }

  private static void followsTheGrammarOfTests() {
    sentence(4, "test = both { \"or\" both }");
    String compare = "< > = <= >=";
    String start = "prize p worth 1 of 1 when ";
    follow(start + "rings", "and or ;");
    follow(start + "rings and", TESTS);
    follow(start + "rings or", TESTS);
    follow(start + "not", TESTS);
    follow(start + "not rings", "and or ;");
    follow(start + "[", TESTS);
    follow(start + "[ rings", "and or ]");
    follow(start + "[ rings ]", "and or ;");
    follow(start + "1", GO_ON + compare);
    follow(start + "( 1", GO_ON + ")");
    follow(start + "( 1 )", GO_ON + compare);
    for (String sign : compare.split(" ")) {
      follow(start + "1 " + sign, VALUES);
      follow(start + "1 " + sign + " 2", GO_ON + "and or ;");
      follow(start + "[ 1 " + sign + " 2", GO_ON + "and or ]");
    }
    follow("turn f at a when rings", "and or ;");
    follow("turn f at a when 1 < 2", GO_ON + "and or ;");
  }

  private static void followsTheGrammarAtDepth8() {
    sentence(4, "the (, [, - or not behind which the depth would be 9");
    String plain = "7 height bells round purse sore best left min max";
    String sum = "prize p worth ( ( ( ( ( ( (";
    follow(sum, VALUES);
    follow(sum + " (", plain);
    follow(sum + " -", plain);
    follow(sum + " ( 1", GO_ON + ")");
    follow(sum + " ( min", "");
    follow(sum + " ( 1 +", plain);
    follow(sum + " min ( 1 ,", plain);
    String test = "prize p worth 1 of 1 when not [ not [ not [ not";
    follow(test, TESTS);
    follow(test + " [", plain + " rings");
    follow(test + " not", plain + " rings");
    follow(test + " [ rings and", plain + " rings");
    follow(test + " [ 1 <", plain);
    follow(test + " [ rings ]", "and or ]");
  }

  // ---- 1. The language: error 1

  private static void tellsError1First() {
    sentence(4, "Only if there is no error 1, keywords, names and numbers are looked at");
    String base = RAIL + FIST + TURN.repeat(20);
    String[] bad = {
      RAIL + RAIL, "turn f at a;", base + TURN, RAIL.replace("20", "19"),
      RAIL + "rust on a from 2 to 1 by 1;"
    };
    for (int i = 0; i < bad.length; i++) {
      BellHammer x = new BellHammer();
      due(teach(x, bad[i]), 2 + i, "teach() of " + bad[i]);
      refused(1, bad[i] + "@;");
      refused(1, bad[i] + "rail rail2 @20");
      refused(1, bad[i] + " @?");
      answers(1, bad[i].length() + 5, bad[i] + "rail ");
      answers(1, bad[i].length() - 1, bad[i].substring(0, bad[i].length() - 1));
    }
    refused(1, RAIL + RAIL + "rail @rail");
    refused(1, RAIL + "@? rail a high 20 puck 4 spring 10;");
  }

  private static void refusesByteAndLongToken() {
    sentence(4, "This includes a byte with which no token begins, a word or number that is too"
        + " long");
    for (int sign = 0; sign < 256; sign++) {
      boolean blank = sign == 32 || sign == 10;
      answers(blank ? 0 : 1, blank ? -1 : 0, "" + (char) sign);
      answers(blank ? 0 : 1, blank ? -1 : RAIL.length() + 1, RAIL + " " + (char) sign);
      boolean begins = isWordly(sign) || blank || "()[];,+-*/<>=".indexOf(sign) >= 0;
      if (!begins) {
        answers(1, 14, "prize p worth " + (char) sign + "1 of 1 when rings;");
        answers(1, 15, "prize p worth 1" + (char) sign + " of 1 when rings;");
      }
    }
    refused(1, "@abcdefghijk");
    refused(1, "@railrailrai high 20");
    refused(1, "rail @abcdefghijk high 1000000;");
    refused(1, "rail a high @1000000");
    refused(1, "rail abcdefghij high @1000000 puck 4 spring 10;");
  }

  private static void refusesTheEnd() {
    sentence(4, "the end of the tape (at its length)");
    String bill = RAIL + FIST + RUST + "prize p worth min(1,-2)*(3) of 1 when not[rings]or 1<=2;"
        + "turn f at a when rings;";
    accepted(bill);
    for (int length = 1; length < bill.length(); length++) {
      String start = bill.substring(0, length);
      boolean inWord = isWordly(bill.charAt(length - 1)) && isWordly(bill.charAt(length));
      if (!inWord && !start.endsWith(";") && !start.endsWith("<")) {
        answers(1, length, start);
        answers(1, length + 3, start + " \n ");
      }
    }
    answers(1, 4, "rail");
    answers(1, 2000, "rail" + " ".repeat(1996));
  }

  private static void refusesToken401() {
    sentence(4, "the token that would be the 401st (the end of the tape not counted). The position"
        + " is that of its first byte.");
    String full = fullBill();
    String last = "turn f7 at r3;";
    String most = full.substring(0, full.length() - last.length());
    due(full.endsWith(last) ? 1 : 0, 1, "the last line of a full bill");
    accepted(full);
    accepted(full + " \n ");
    accepted(full + " ".repeat(2000 - full.length()));
    refused(1, full + "@rail");
    refused(1, full + "  @" + RAIL);
    refused(1, full + "@;");
    refused(1, full + "\n@?");
    refused(1, full + "@12345678");
    answers(1, full.length() - 1, full.substring(0, full.length() - 1));
    refused(1, most + "turn f7 at @;");
    refused(1, most + "turn f7 at r3 @rings;");
    refused(1, most + "turn f7 at r3 when @rings;");
    refused(1, most + "turn f7 at r3 when @abcdefghijklm;");
    // A prize has 9 tokens with a sum of one number, and two more for each number more.
    accepted(worth("1" + "+1".repeat(195)));
    accepted(worth("-1" + "+1".repeat(195)));
    refused(1, worth("1" + "+1".repeat(195)) + "turn @f");
    refused(1, worth("-1" + "+1".repeat(195)) + "@turn f");
    refused(1, worth("--1" + "+1".repeat(195)).replace(";", "@;"));
    refused(1, worth("1" + "+1".repeat(196)).replace(";", "@;"));
    refused(1, "prize p worth 1" + "+1".repeat(198) + "@+1");
    answers(1, 15 + 2 * 198 + 6, "prize p worth 1" + "+1".repeat(198) + "      ");
  }

  // ---- 1. The language: errors 2 to 6

  /** A bill for each error from 2 on, with an @ at its place; all go on from the same base. */
  private static String[] lines() {
    return new String[] {
      "rail @a high 20 puck 4 spring 10;",
      "turn @g at a;",
      "@turn f at a;",
      "rail b high @19 puck 4 spring 10;",
      "rust on a from 5 to @4 by 1;"
    };
  }

  private static void looksFromLeftToRight() {
    sentence(4, "keywords, names and numbers are looked at from left to right, and the first error"
        + " is told, at its token");
    String base = RAIL + FIST + TURN.repeat(20);
    for (int i = 0; i < 5; i++) {
      // The 21st turn is one, whatever it names, so here an unknown fist is none behind a turn.
      String first = i == 1 ? "prize p worth purse @g of 1 when rings;" : lines()[i];
      refused(2 + i, base + first);
      for (String second : lines()) {
        refused(2 + i, base + first + second.replace("@", ""));
      }
    }
    refused(5, "rail a high @19 puck 0 spring 21;");
    refused(5, "rail a high 20 puck @0 spring 21;");
    refused(3, "rust on @b from 100 to 3 by 10;");
    refused(5, RAIL + "rust on a from @100 to 3 by 10;");
    refused(6, RAIL + "rust on a from 4 to @3 by 10;");
    refused(3, "turn @g at b when purse h = best i;");
    refused(3, FIST + "turn f at @b when purse h = 1;");
    refused(3, RAIL + FIST + "turn f at a when purse @h = best i;");
    refused(3, "prize p worth best @a of 100 when left p = 1;");
    refused(5, "prize p worth 1 of @100 when left p = 1;");
    refused(2, PRIZE + "prize @p worth best a of 100 when rings;");
  }

  private static void tellsTheSmallestError() {
    sentence(4, "of errors at one token the one with the smallest number.");
    String full = fullBill();
    String rails = full.substring(0, full.indexOf("rust"));
    refused(2, rails + "rail @r0 high 20 puck 4 spring 10;");
    refused(2, rails + "rail @r3 high 20 puck 4 spring 10;");
    refused(4, rails + "rail @r4 high 20 puck 4 spring 10;");
    String fists = full.substring(full.indexOf("fist"), full.indexOf("prize"));
    refused(2, fists + "fist @f7 arm 1 aim 0 elbows 0;");
    refused(4, fists + "fist @f8 arm 1 aim 0 elbows 0;");
    String prizes = full.substring(full.indexOf("prize"), full.indexOf("turn"));
    refused(2, prizes + "prize @p7 worth 1 of 1 when rings;");
    refused(4, prizes + "prize @p8 worth 1 of 1 when rings;");
  }

  private static void tellsError2() {
    sentence(4, "Error 2: the name behind rail, fist or prize is that of one of the same sort told"
        + " ahead.");
    refused(2, RAIL + "rail @a high 20 puck 4 spring 10;");
    refused(2, FIST + "fist @f arm 5 aim 0 elbows 0;");
    refused(2, PRIZE + "prize @p worth 1 of 1 when rings;");
    refused(2, RAIL + FIST + PRIZE + "rail b high 20 puck 4 spring 1;rail @b high 20 puck 4 spring 1;");
    accepted(RAIL + "fist a arm 5 aim 0 elbows 0; prize a worth best a + purse a of 1 when rings;"
        + "turn a at a when left a = 1 and sore a = 0;");
    accepted(RAIL + "rail aa high 20 puck 4 spring 10;rail a0 high 20 puck 4 spring 10;");
    BellHammer x = taught(RAIL + FIST + PRIZE);
    due(teach(x, RAIL + FIST + PRIZE), 0, "names of an older bill");
    due(teach(x, RAIL + RAIL), 2, "the same name twice");
    due(teach(x, RAIL + FIST + PRIZE), 0, "names of a bill that was refused");
  }

  private static void tellsError3() {
    sentence(4, "Error 3: another name is none of what it has to be, told ahead: behind on, at and"
        + " best of a rail, behind turn, purse and sore of a fist, behind left of a prize (in its"
        + " own worth and test a prize is not told ahead).");
    String all = RAIL + FIST + PRIZE;
    accepted(all + "rust on a from 1 to 1 by 1; turn f at a when best a=purse f and sore f=left p;");
    for (String other : "f p b".split(" ")) {
      refused(3, all + "rust on @" + other + " from 1 to 1 by 1;");
      refused(3, all + "turn f at @" + other + ";");
      refused(3, all + "turn f at a when best @" + other + " = 1;");
    }
    for (String other : "a p g".split(" ")) {
      refused(3, all + "turn @" + other + " at a;");
      refused(3, all + "turn f at a when purse @" + other + " = 1;");
      refused(3, all + "turn f at a when 1 = sore @" + other + ";");
    }
    for (String other : "a f q".split(" ")) {
      refused(3, all + "turn f at a when left @" + other + " = 1;");
    }
    refused(3, "rust on @a from 1 to 1 by 1;" + RAIL);
    refused(3, "turn @f at a;" + RAIL + FIST);
    refused(3, FIST + "turn f at @a;" + RAIL);
    refused(3, worth("left @q") + "prize q worth 1 of 1 when rings;");
    refused(3, worth("left @p"));
    refused(3, when("left @p = 1"));
    accepted(PRIZE + "prize q worth left p of 1 when left p = 1;");
    refused(3, PRIZE + "prize q worth left p of 1 when left @q = 1;");
    BellHammer x = taught(all);
    due(teach(x, "turn f at a;"), 3, "names of an older bill");
    due(x.errorAt(), 5, "errorAt() of names of an older bill");
  }

  private static void tellsError4() {
    sentence(4, "Error 4: the name of the 5th rail, of the 9th fist or of the 9th prize, or the"
        + " rust of the 13th rust, or the turn of the 21st turn.");
    StringBuilder rails = new StringBuilder();
    StringBuilder fists = new StringBuilder();
    StringBuilder prizes = new StringBuilder();
    for (int i = 0; i < 8; i++) {
      rails.append(i < 4 ? "rail r" + i + " high 20 puck 4 spring 10;" : "");
      fists.append("fist f" + i + " arm 5 aim 0 elbows 0;");
      prizes.append("prize p" + i + " worth 1 of 1 when rings;");
    }
    due(taught(rails.toString()).count(1), 4, "rails");
    due(taught(fists.toString()).count(2), 8, "fists");
    due(taught(prizes.toString()).count(3), 8, "prizes");
    due(taught(RAIL + FIST + TURN.repeat(20)).count(4), 20, "turns");
    accepted(RAIL + RUST.repeat(12));
    accepted(rails + RUST.replace(" a ", " r0 ").repeat(6) + RUST.replace(" a ", " r3 ").repeat(6));
    refused(4, rails + "rail @r high 0 puck 0 spring 99;");
    refused(4, fists + "fist @f arm 0 aim 99 elbows 10;");
    refused(4, prizes + "prize @p worth left p8 of 100 when rings;");
    refused(4, RAIL + RUST.repeat(12) + "@rust on b from 100 to 1 by 10;");
    refused(4, rails + RUST.replace(" a ", " r0 ").repeat(12) + "@rust on r3 from 1 to 1 by 1;");
    refused(4, RAIL + FIST + TURN.repeat(20) + "@turn g at b;");
    String full = fullBill();
    BellHammer x = taught(full);
    due(x.count(1) * 1000 + x.count(2) * 100 + x.count(3) * 10, 4880, "a full bill");
    due(x.count(4), 20, "turns of a full bill");
  }

  private static void tellsError5() {
    sentence(4, "Error 5: a number is out of its range: high 20 to 99, puck 1 to 9, spring 0 to 20,"
        + " from and to of a rust 0 to 99, by 0 to 9, arm 1 to 60, aim 0 to 20, elbows 0 to 9,"
        + " of 0 to 99.");
    range("rail a high # puck 4 spring 10;", 20, 99);
    range("rail a high 20 puck # spring 10;", 1, 9);
    range("rail a high 20 puck 4 spring #;", 0, 20);
    range(RAIL + "rust on a from # to 99 by 1;", 0, 99);
    range(RAIL + "rust on a from 0 to # by 1;", 0, 99);
    range(RAIL + "rust on a from 1 to 1 by #;", 0, 9);
    range("fist f arm # aim 0 elbows 0;", 1, 60);
    range("fist f arm 5 aim # elbows 0;", 0, 20);
    range("fist f arm 5 aim 0 elbows #;", 0, 9);
    range("prize p worth 1 of # when rings;", 0, 99);
    range("prize p worth # of 1 when rings;", 0, 999999);
    range("prize p worth 1 of 1 when # < 1;", 0, 999999);
    BellHammer x = taught("rail a high 20 puck 1 spring 0; rail b high 99 puck 9 spring 20;"
        + "fist f arm 1 aim 0 elbows 0; fist g arm 60 aim 20 elbows 9;"
        + "prize p worth 1 of 0 when rings; prize q worth 1 of 99 when rings;");
    int[] due = {20, 1, 0, 99, 9, 20, 1, 0, 0, 60, 20, 9, 0, 99};
    for (int i = 0; i < 3; i++) {
      due(x.rail(0, i), due[i], "a least number of a rail");
      due(x.rail(1, i), due[3 + i], "a greatest number of a rail");
      due(x.fist(0, i), due[6 + i], "a least number of a fist");
      due(x.fist(1, i), due[9 + i], "a greatest number of a fist");
    }
    due(x.prize(0, 0), 0, "the least of");
    due(x.prize(1, 0), 99, "the greatest of");
  }

  /** The # stands for the number whose range is tried. */
  private static void range(String bill, int least, int most) {
    accepted(bill.replace("#", "" + least));
    accepted(bill.replace("#", "" + most));
    accepted(bill.replace("#", "" + (least + most) / 2));
    accepted(bill.replace("#", "00" + least));
    if (least > 0) {
      refused(5, bill.replace("#", "@" + (least - 1)));
      refused(5, bill.replace("#", "@0"));
    }
    if (most < 999999) {
      refused(5, bill.replace("#", "@" + (most + 1)));
      refused(5, bill.replace("#", "@999999"));
    }
    refused(1, bill.replace("#", "@1000000"));
  }

  private static void tellsError6() {
    sentence(4, "Error 6: the number behind the to of a rust is less than that behind its from.");
    for (int from : new int[] {0, 1, 50, 98, 99}) {
      String start = RAIL + "rust on a from " + from + " to ";
      accepted(start + from + " by 1;");
      accepted(start + "99 by 1;");
      if (from < 99) {
        accepted(start + (from + 1) + " by 1;");
      }
      if (from > 0) {
        refused(6, start + "@" + (from - 1) + " by 1;");
        refused(6, start + "@0 by 10;");
      }
      refused(5, start + "@100 by 1;");
    }
    refused(5, RAIL + "rust on a from @100 to 99 by 1;");
  }

  private static void numbersFrom0() {
    sentence(4, "Rails, fists, prizes and turns are numbered from 0 in the order in which they are"
        + " told.");
    BellHammer x = taught(fullBill());
    for (int i = 0; i < 4; i++) {
      due(x.rail(i, 0), 20 + i, "the high of rail " + i);
    }
    for (int i = 0; i < 8; i++) {
      due(x.fist(i, 0), 1 + i, "the arm of fist " + i);
      due(x.prize(i, 0), 2 + i, "how often prize " + i + " is there");
    }
    for (int i = 0; i < 20; i++) {
      due(x.turn(i, 0), i == 19 ? 7 : i % 8, "the fist of turn " + i);
      due(x.turn(i, 1), i % 4, "the rail of turn " + i);
      due(x.turn(i, 2), i, "the place of turn " + i);
    }
    outOfBounds("rail(4, 0)", x, y -> y.rail(4, 0));
    outOfBounds("fist(8, 0)", x, y -> y.fist(8, 0));
    outOfBounds("prize(8, 0)", x, y -> y.prize(8, 0));
    outOfBounds("turn(20, 0)", x, y -> y.turn(20, 0));
    outOfBounds("rail(-1, 0)", x, y -> y.rail(-1, 0));
  }
}
