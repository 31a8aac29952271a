import java.util.function.IntSupplier;

/** Promise by promise: ordinary calls, the edges that the document names, and wrong calls. */
public final class PromiseTest {
  private static final String RAIL = "rail a high 20 puck 4 spring 10;";
  private static final String FIST = "fist f arm 5 aim 0 elbows 0;";
  private static final String FAIR =
      "rail a high 20 puck 4 spring 10; rail b high 99 puck 1 spring 20;"
          + "fist f arm 5 aim 0 elbows 0; fist g arm 8 aim 0 elbows 1;";

  private static int promise;
  private static int wrong;

  public static void main(String[] args) {
    promise1NewObject();
    promise2Feed();
    promise3Trim();
    promise4Teach();
    promise4TeachAgain();
    promise4Tokens();
    promise4Error1();
    promise4Depth();
    promise4TokenLimit();
    promise4NamesAndNumbers();
    promise4Counts();
    promise5ErrorAt();
    promise6Count();
    promise7Rail();
    promise8Fist();
    promise9Prize();
    promise9Language();
    promise10Turn();
    promise11Board();
    promise12Strike();
    promise13Wind();
    promise14Pass();
    promise14Elbows();
    promise14Rest();
    promise15Would();
    promise15Rust();
    promise16Path();
    promise17Needs();
    promise18Foresee();
    promise19Advise();
    promise20Mean();
    promise21Digest();
    System.out.println(wrong == 0 ? "all promises hold" : wrong + " answers are wrong");
    if (wrong != 0) {
      System.exit(1);
    }
  }

  private static void promise1NewObject() {
    promise = 1;
    BellHammer x = new BellHammer();
    for (int what = 0; what <= 9; what++) {
      due(x.count(what), 0, "count(" + what + ")");
    }
    due(x.errorAt(), -1, "errorAt()");
    outOfBounds(() -> x.rail(0, 0));
    outOfBounds(() -> x.fist(0, 0));
    outOfBounds(() -> x.prize(0, 0));
    outOfBounds(() -> x.turn(0, 0));
    outOfBounds(() -> x.board(0));
    due(x.pass(30), 0, "pass(30) without turns");
    due(x.count(0), 30, "the round");
    due(new BellHammer().count(0), 0, "the round of another object");
  }

  private static void promise2Feed() {
    promise = 2;
    BellHammer x = new BellHammer();
    for (int i = 1; i <= 100; i++) {
      due(x.feed(0x20202020, 0x20202020, 0x20202020, 0x20202020, 0x20202020), 20 * i, "feed");
    }
    illegalState(() -> x.feed(0, 0, 0, 0, 0));
    due(x.count(9), 2000, "a refused feed changes nothing");
    x.trim(1981);
    illegalState(() -> x.feed(0, 0, 0, 0, 0));
    x.trim(1980);
    due(x.feed(0, 0, 0, 0, 0), 2000, "feed up to 2000");
    due(x.teach(), 1, "byte 0 is no token");
    due(x.errorAt(), 1980, "the byte behind the blanks");
    x.feed(0x66697374, 0x20672061, 0x726d2031, 0x32206169, 0x6d203320);
    x.feed(0x656c626f, 0x77732034, 0x3b0a0a0a, 0x0a0a0a0a, 0x0a0a0a0a);
    due(x.teach(), 0, "fist g arm 12 aim 3 elbows 4;");
    due(x.fist(0, 0), 12, "arm");
    due(x.fist(0, 1), 3, "aim");
    due(x.fist(0, 2), 4, "elbows");
    x.feed(0x202020a0, 0, 0, 0, 0);
    x.teach();
    due(x.errorAt(), 3, "a byte above 127 is no token");
    x.feed(0x20202020, 0x20202020, 0x20202020, 0x20202020, 0x80000000);
    x.teach();
    due(x.errorAt(), 16, "the highest byte comes first");
  }

  private static void promise3Trim() {
    promise = 3;
    BellHammer x = new BellHammer();
    due(x.trim(0), 0, "trim(0)");
    illegalArgument(() -> x.trim(1));
    illegalArgument(() -> x.trim(-1));
    feedText(x, RAIL + FIST);
    illegalArgument(() -> x.trim(RAIL.length() + FIST.length() + 1));
    due(x.count(9), RAIL.length() + FIST.length(), "a refused trim changes nothing");
    due(x.trim(RAIL.length()), RAIL.length(), "trim");
    due(x.count(9), RAIL.length(), "bytes behind trim");
    illegalArgument(() -> x.trim(RAIL.length() + 1));
    illegalArgument(() -> x.trim(Integer.MIN_VALUE));
    illegalArgument(() -> x.trim(Integer.MAX_VALUE));
    due(x.teach(), 0, "teach");
    due(x.count(1), 1, "the first bytes are kept");
    due(x.count(2), 0, "the last bytes are not kept");
  }

  private static void promise4Teach() {
    promise = 4;
    BellHammer x = taught(FAIR + "prize p worth 1 of 9 when rings; turn g at a;");
    x.pass(2);
    x.strike(0, 1);
    due(teach(x, FAIR + "rust on c"), 1, "teach with an error");
    due(x.count(9), 0, "the tape is empty behind an error");
    due(x.count(0), 2, "the round stays");
    due(x.count(3), 1, "all stays behind an error");
    due(x.count(5), 3, "strikes stay behind an error");
    due(x.board(0), 99, "the board stays behind an error");
    due(x.count(7), 2, "purses stay behind an error");
    due(x.foresee(1, 3), 1, "the turns stay behind an error");
    due(teach(x, RAIL + FIST), 0, "teach anew");
    due(x.count(9), 0, "the tape is empty behind a bill");
    due(x.count(0), 2, "the round stays behind a bill");
    for (int what = 3; what <= 8; what++) {
      due(x.count(what), 0, "count(" + what + ") behind a bill");
    }
    due(x.count(1), 1, "rails behind a bill");
    due(x.rail(0, 3) + x.rail(0, 4), 0, "no strike yet at the rail");
    due(x.fist(0, 3) + x.fist(0, 4) + x.fist(0, 5) + x.fist(0, 7), 0, "no strike yet of the fist");
    due(teach(x, "prize p worth height + bells + best a of 1 when height = 0;" + RAIL), 3, "best");
    due(teach(x, RAIL + "prize p worth height + bells + best a of 1 when not rings;"), 0, "worth");
    due(x.prize(0, 2), 0, "height and bells before a strike");
    due(x.prize(0, 3), 1, "rings before a strike");
    due(teach(x, ""), 0, "an empty tape is a bill");
    due(x.count(1), 0, "an empty bill tells nothing");
  }

  private static void promise4TeachAgain() {
    promise = 4;
    String rusty = RAIL + FIST + "rust on a from 0 to 99 by 9;".repeat(12)
        + "prize p worth " + "1+".repeat(100) + "1 of 9 when height > 0; turn f at a;";
    BellHammer x = new BellHammer();
    for (int i = 0; i < 6; i++) {
      due(teach(x, rusty), 0, "the same bill anew");
      due(x.would(0, 0, 0), 5, "a rusty rail");
      due(x.prize(0, 2), 101, "worth");
      due(x.prize(0, 1), 0, "nothing is given yet");
      due(x.fist(0, 6), 0, "no height yet");
      due(x.pass(1), 1, "the prize of the first round");
      due(x.fist(0, 3), 4, "no rest behind a strike");
      due(x.count(7), 101, "purses");
      x.strike(0, 0);
    }
    for (int i = 0; i < 3; i++) {
      due(teach(x, RAIL + FIST), 0, "a bill without rust");
      due(x.would(0, 0, 0), 15, "no rust is left");
    }
    due(teach(x, FIST), 0, "only a fist");
    outOfBounds(() -> x.rail(0, 0));
    BellHammer y = taught(FAIR);
    y.strike(0, 0);
    teach(y, FAIR);
    teach(y, FAIR);
    y.strike(1, 0);
    teach(y, FAIR);
    y.pass(1);
    due(y.fist(1, 3), 0, "a fist of a new bill is not sore");
  }

  private static void promise4Tokens() {
    promise = 4;
    accepted("rail az high 20 puck 4 spring 0; rail a0 high 20 puck 4 spring 0;"
        + "rail a high 20 puck 4 spring 0; rail aa high 20 puck 4 spring 0;");
    accepted("rail b high 20 puck 4 spring 0; rail bb high 20 puck 4 spring 0;"
        + "rail a0 high 20 puck 4 spring 0; rail dl high 20 puck 4 spring 0;");
    accepted("fist a9 arm 1 aim 0 elbows 0; fist aj arm 1 aim 0 elbows 0;"
        + "fist a00 arm 1 aim 0 elbows 0; fist abcdefghia arm 1 aim 0 elbows 0;"
        + "fist abcdefghi arm 1 aim 0 elbows 0; fist abcdefghib arm 1 aim 0 elbows 0;");
    accepted("\n\n rail\na \n high 20puck 4spring 10;\n");
    accepted("rail a high 020 puck 000004 spring 000;");
    accepted("rail abcdefghij high 20 puck 4 spring 0;");
    accepted("rail a1b2c3d4e5 high 20 puck 4 spring 0;");
    accepted("rail rails high 20 puck 4 spring 0;");
    accepted("rail rail1 high 20 puck 4 spring 0;");
    accepted("prize p worth-1of 1when[1<2]and 1<=2and 2>=1;");
    accepted("prize p worth 999999 of 1 when 1<-1;");
    refused("rail abcdefghijk high 20 puck 4 spring 0;", 1, 5);
    refused("prize p worth 1000000 of 1 when rings;", 1, 14);
    refused("prize p worth 0000001 of 1 when rings;", 1, 14);
    refused("raila high 20 puck 4 spring 0;", 1, 0);
    refused("rail a high20 puck 4 spring 0;", 1, 7);
    refused("rail A high 20 puck 4 spring 0;", 1, 5);
    refused("rail aB high 20 puck 4 spring 0;", 1, 6);
    refused("rail\ta high 20 puck 4 spring 0;", 1, 4);
    refused("rail a high 20 puck 4 spring 0;\r", 1, 31);
    refused("prize p worth 1 of 1 when 1 < = 2;", 1, 30);
    refused("prize p worth 1 of 1 when 1 =< 2;", 1, 29);
    refused("prize p worth 1 of 1 when 1 <> 2;", 1, 29);
    refused("prize p worth 1 _ 2 of 1 when rings;", 1, 16);
  }

  private static void promise4Error1() {
    promise = 4;
    refused(";", 1, 0);
    refused("a", 1, 0);
    refused("high 20;", 1, 0);
    refused("rail", 1, 4);
    refused("rail  ", 1, 6);
    refused("rail high high 20 puck 4 spring 0;", 1, 5);
    refused("rail 1 high 20 puck 4 spring 0;", 1, 5);
    refused("rail a puck 4", 1, 7);
    refused("rail a high a", 1, 12);
    refused("rail a high 20 puck 4 spring 0", 1, 30);
    refused("rail a high 20 puck 4 spring 0 rail", 1, 31);
    refused("rust a", 1, 5);
    refused("rust on a from 1 to 2;", 1, 21);
    refused("fist f arm 1 aim 2;", 1, 18);
    refused("prize p worth of", 1, 14);
    refused("prize p worth 1 + of", 1, 18);
    refused("prize p worth 1 of height", 1, 19);
    refused("prize p worth 1 of 1;", 1, 20);
    refused("prize p worth [1] of 1 when rings;", 1, 14);
    refused("prize p worth rings of 1 when rings;", 1, 14);
    refused("prize p worth 1 of 1 when 1;", 1, 27);
    refused("prize p worth 1 of 1 when (1 < 2);", 1, 29);
    refused("prize p worth 1 of 1 when [1];", 1, 28);
    refused("prize p worth 1 of 1 when 1 < 2 < 3;", 1, 32);
    refused("prize p worth 1 of 1 when not;", 1, 29);
    refused("prize p worth 1 of 1 when rings or;", 1, 34);
    refused("prize p worth 1 of 1 when rings and or rings;", 1, 36);
    refused("prize p worth 1 of 1 when rings = rings;", 1, 32);
    refused("prize p worth min 1 of 1 when rings;", 1, 18);
    refused("prize p worth max(1) of 1 when rings;", 1, 19);
    refused("prize p worth max(1, 2, 3) of 1 when rings;", 1, 22);
    refused("prize p worth purse of 1 when rings;", 1, 20);
    refused("prize p worth sore 1 of 1 when rings;", 1, 19);
    refused("prize p worth best best of 1 when rings;", 1, 19);
    refused("prize p worth 2 3 of 1 when rings;", 1, 16);
    refused("prize p worth (1 of 1 when rings;", 1, 17);
    refused("prize p worth 1) of 1 when rings;", 1, 15);
    refused("turn f at a when;", 1, 16);
    refused("turn f a", 1, 7);
    refused("turn f at a 1;", 1, 12);
    refused("rail a high 5 puck 0 spring 99; rail a high 5 puck 1 spring 1; x", 1, 63);
  }

  private static void promise4Depth() {
    promise = 4;
    accepted(worth("((((((((1))))))))"));
    refused(worth("(((((((((1)))))))))"), 1, 22);
    accepted(worth("- - - - - - - - 1"));
    refused(worth("- - - - - - - - - 1"), 1, 30);
    accepted(worth("1 - - - - - - - - - 1"));
    refused(worth("1 - - - - - - - - - - 1"), 1, 34);
    accepted(worth("(-(-(-(-1)))) + (-(-(-(-1))))"));
    refused(worth("(-(-(-(-(1)))))"), 1, 22);
    accepted(worth("min(1,min(1,min(1,min(1,min(1,min(1,min(1,min(1,2))))))))"));
    refused(worth("(min(1,min(1,min(1,min(1,min(1,min(1,min(1,max(1,2)))))))))"), 1, 60);
    refused(worth("((((((((min 1))))))))"), 1, 26);
    accepted(worth("min((((((((1))))))),2)"));
    refused(worth("min(((((((((1)))))))),2)"), 1, 25);
    refused(worth("min(1,(((((((((1)))))))))"), 1, 27);
    accepted(RAIL + FIST + "turn f at a when [[[[[[[[rings]]]]]]]];");
    refused(RAIL + FIST + "turn f at a when [[[[[[[[[rings]]]]]]]]];", 1,
        RAIL.length() + FIST.length() + 25);
    accepted(when("[[[[[[[[rings]]]]]]]]"));
    refused(when("[[[[[[[[[rings]]]]]]]]]"), 1, 34);
    accepted(when("not not not not not not not not rings"));
    refused(when("not not not not not not not not not rings"), 1, 58);
    accepted(when("not [not [not [not [rings]]]] or not [not [not [not [rings]]]]"));
    refused(when("[not [not [(-(-(2)))=2]]]"), 1, 40);
    accepted(when("[not [not [(-(2))=2]]] and - (2) < 3"));
    refused(when("not not not not not not not not - 1 < 2"), 1, 58);
  }

  private static void promise4TokenLimit() {
    promise = 4;
    // "prize p worth 1 of 1 when rings ;" has 9 tokens, and " + 1" two more each.
    String odd = worth("1" + "+1".repeat(195));
    accepted(odd);
    refused(odd + "turn ", 1, odd.length() + 5);
    refused(odd + "turn f", 1, odd.length() + 5);
    refused(odd + ";", 1, odd.length());
    String full = worth("-1" + "+1".repeat(195));
    accepted(full);
    accepted(full + " \n ");
    refused(full + "  rail", 1, full.length() + 2);
    refused(full + "?", 1, full.length());
    String over = worth("1" + "+1".repeat(196));
    refused(over, 1, over.length() - 1);
    String longOne = RAIL + worth("1" + "+1".repeat(250));
    refused(longOne, 1, RAIL.length() + 14 + 388);
    due(taught(odd).prize(0, 2), 196, "a sum of 196 numbers");
  }

  private static void promise4NamesAndNumbers() {
    promise = 4;
    refused(RAIL + "rail a high 20 puck 4 spring 10;", 2, 37);
    refused(FIST + "fist f arm 1 aim 1 elbows 1;", 2, 33);
    refused(worth("1") + "prize p worth 1 of 1 when rings;", 2, 38);
    accepted("rail a high 20 puck 4 spring 1; fist a arm 1 aim 1 elbows 1;"
        + "prize a worth best a + sore a of 1 when purse a = 1; turn a at a when left a = 0;");
    refused("rust on a from 1 to 2 by 3;" + RAIL, 3, 8);
    refused("turn f at a;" + RAIL + FIST, 3, 5);
    refused(FIST + "turn f at f;" + RAIL, 3, FIST.length() + 10);
    refused(RAIL + "turn a at a;" + FIST, 3, RAIL.length() + 5);
    refused(RAIL + worth("purse a"), 3, RAIL.length() + 20);
    refused(FIST + worth("best f"), 3, FIST.length() + 19);
    refused(worth("sore f") + FIST, 3, 19);
    refused(worth("left p"), 3, 19);
    refused(when("left p = 1"), 3, 31);
    accepted(worth("1") + "prize q worth left p of 1 when left p > 1;");
    refused("rail a high 19 puck 4 spring 0;", 5, 12);
    accepted("rail a high 20 puck 1 spring 0;");
    accepted("rail a high 99 puck 9 spring 20;");
    refused("rail a high 100 puck 4 spring 0;", 5, 12);
    refused("rail a high 20 puck 0 spring 0;", 5, 20);
    refused("rail a high 20 puck 10 spring 0;", 5, 20);
    refused("rail a high 20 puck 9 spring 21;", 5, 29);
    accepted(RAIL + "rust on a from 0 to 0 by 0; rust on a from 99 to 99 by 9;");
    refused(RAIL + "rust on a from 100 to 3 by 1;", 5, RAIL.length() + 15);
    refused(RAIL + "rust on a from 4 to 100 by 1;", 5, RAIL.length() + 20);
    refused(RAIL + "rust on a from 4 to 4 by 10;", 5, RAIL.length() + 25);
    refused(RAIL + "rust on a from 4 to 3 by 10;", 6, RAIL.length() + 20);
    refused("fist f arm 0 aim 0 elbows 0;", 5, 11);
    accepted("fist f arm 60 aim 20 elbows 9;");
    refused("fist f arm 61 aim 0 elbows 0;", 5, 11);
    refused("fist f arm 1 aim 21 elbows 0;", 5, 17);
    refused("fist f arm 1 aim 20 elbows 10;", 5, 27);
    accepted("prize p worth 1 of 0 when rings; prize q worth 1 of 99 when rings;");
    refused("prize p worth 1 of 100 when left p = 1;", 5, 19);
    refused("prize p worth best q of 100 when rings;", 3, 19);
    refused("rail a high 5 puck 0 spring 0; rail a high 5 puck 0 spring 0;", 5, 12);
    refused("turn f at a; rail a high 20 puck 1 spring 1; rail a", 1, 51);
  }

  private static void promise4Counts() {
    promise = 4;
    StringBuilder rails = new StringBuilder();
    for (int i = 0; i < 4; i++) {
      rails.append("rail r" + i + " high 20 puck 1 spring 1;");
    }
    accepted(rails.toString());
    refused(rails + "rail r4 high 20 puck 1 spring 1;", 4, rails.length() + 5);
    refused(rails + "rail r3 high 20 puck 1 spring 1;", 2, rails.length() + 5);
    String rusts = RAIL + "rust on a from 1 to 1 by 1;".repeat(12);
    accepted(rusts);
    refused(rusts + "rust on b from 1 to 1 by 1;", 4, rusts.length());
    StringBuilder fists = new StringBuilder();
    for (int i = 0; i < 8; i++) {
      fists.append("fist f" + i + " arm 1 aim 1 elbows 1;");
    }
    accepted(fists.toString());
    refused(fists + "fist f8 arm 0 aim 1 elbows 1;", 4, fists.length() + 5);
    refused(fists + "fist f0 arm 1 aim 1 elbows 1;", 2, fists.length() + 5);
    StringBuilder prizes = new StringBuilder();
    for (int i = 0; i < 8; i++) {
      prizes.append("prize p" + i + " worth 1 of 1 when rings;");
    }
    accepted(prizes.toString());
    refused(prizes + "prize p8 worth best a of 1 when rings;", 4, prizes.length() + 6);
    refused(prizes + "prize p7 worth 1 of 1 when rings;", 2, prizes.length() + 6);
    String turns = RAIL + FIST + "turn f at a;".repeat(20);
    accepted(turns);
    refused(turns + "turn g at a;", 4, turns.length());
  }

  private static void promise5ErrorAt() {
    promise = 5;
    BellHammer x = new BellHammer();
    due(x.errorAt(), -1, "no teach yet");
    teach(x, "rail a high 7 puck 1 spring 1;");
    due(x.errorAt(), 12, "error 5");
    feedText(x, RAIL);
    due(x.errorAt(), 12, "feed and trim change it not");
    x.teach();
    due(x.errorAt(), -1, "the latest teach had none");
    teach(x, "   rail");
    due(x.errorAt(), 7, "the end of the tape");
    x.teach();
    due(x.errorAt(), -1, "an empty tape has none");
  }

  private static void promise6Count() {
    promise = 6;
    BellHammer x = taught(FAIR + "prize p worth 5 of 9 when rings; turn g at a; turn f at a;");
    due(x.count(1), 2, "rails");
    due(x.count(2), 2, "fists");
    due(x.count(3), 1, "prizes");
    due(x.count(4), 2, "turns");
    x.pass(3);
    due(x.count(0), 3, "round");
    due(x.count(5), 6, "strikes");
    due(x.count(6), 1, "bells: g rings at 8, and is sore by 4 and 8 then");
    due(x.count(7), 5, "purses");
    due(x.count(8), 6, "heights on the board");
    x.strike(0, 0);
    due(x.count(5), 7, "strikes out of turn");
    feedText(x, "rail");
    due(x.count(9), 4, "bytes of the tape");
    x.pass(2);
    due(x.count(8), 10, "at most 10 heights");
    outOfBounds(() -> x.count(-1));
    outOfBounds(() -> x.count(10));
    BellHammer y = taught(FAIR + "prize p worth 99999 * 20000 of 9 when height >= 0;");
    y.strike(0, 0);
    y.strike(1, 0);
    due(y.count(7), 2 * 1999980000, "all purses wrap around");
  }

  private static void promise7Rail() {
    promise = 7;
    BellHammer x = taught(FAIR);
    due(x.rail(0, 0), 20, "high");
    due(x.rail(0, 1), 4, "puck");
    due(x.rail(0, 2), 10, "spring");
    due(x.rail(1, 0), 99, "high");
    due(x.rail(1, 1), 1, "puck");
    due(x.rail(1, 2), 20, "spring");
    x.strike(0, 0);
    x.strike(0, 0);
    due(x.rail(0, 3), 15, "the greatest height, not the latest");
    due(x.rail(0, 4), 2, "strikes there");
    due(x.rail(1, 3), 0, "the greatest height elsewhere");
    due(x.rail(1, 4), 0, "strikes elsewhere");
    outOfBounds(() -> x.rail(2, 0));
    outOfBounds(() -> x.rail(-1, 0));
    outOfBounds(() -> x.rail(0, 5));
    outOfBounds(() -> x.rail(0, -1));
  }

  private static void promise8Fist() {
    promise = 8;
    BellHammer x = taught(FAIR + "fist h arm 60 aim 20 elbows 9;"
        + "prize p worth 7 of 9 when height < 20; prize q worth 3 of 9 when rings;");
    int[] told = {60, 20, 9, 0, 0, 0, 0, 0, 1};
    for (int what = 0; what <= 8; what++) {
      due(x.fist(2, what), told[what], "fist(2, " + what + ")");
    }
    x.strike(0, 0);
    x.strike(1, 0);
    x.strike(1, 0);
    due(x.fist(0, 3), 4, "sore");
    due(x.fist(1, 3), 8, "sore by two strikes");
    due(x.fist(0, 4), 7, "purse");
    due(x.fist(1, 4), 10, "purse of two prizes");
    due(x.fist(1, 5), 2, "strikes");
    due(x.fist(1, 6), 20, "the greatest height, not the latest");
    due(x.fist(1, 7), 1, "bells");
    due(x.fist(0, 7), 0, "no bells");
    due(x.fist(0, 8), 2, "place");
    due(x.fist(1, 8), 1, "place");
    due(x.fist(2, 8), 3, "place");
    x.strike(2, 1);
    due(x.fist(2, 7), x.count(6) - 1, "bells of a flight that rings more than once");
    outOfBounds(() -> x.fist(3, 0));
    outOfBounds(() -> x.fist(-1, 0));
    outOfBounds(() -> x.fist(0, 9));
    outOfBounds(() -> x.fist(0, -1));
    BellHammer y = taught(FAIR + "fist h arm 1 aim 0 elbows 0;");
    for (int fist = 0; fist < 3; fist++) {
      due(y.fist(fist, 8), 1, "equal purses have one place");
    }
  }

  private static void promise9Prize() {
    promise = 9;
    BellHammer x = taught(FAIR + "prize p worth round * 2 + purse f of 2 when height = 15;"
        + "prize q worth 10 of 9 when best a >= 15 and left p < 3;");
    due(x.prize(0, 0), 2, "left");
    due(x.prize(0, 1), 0, "given");
    due(x.prize(0, 2), 0, "worth");
    due(x.prize(0, 3), 0, "test");
    x.pass(3);
    due(x.prize(0, 2), 6, "worth in round 3");
    x.strike(0, 0);
    due(x.fist(0, 4), 6, "the first prize only");
    due(x.prize(0, 0), 1, "left");
    due(x.prize(0, 1), 1, "given");
    due(x.prize(0, 2), 12, "worth now");
    due(x.prize(0, 3), 1, "test now");
    due(x.prize(1, 1), 0, "no second prize for one strike");
    x.strike(0, 0);
    due(x.prize(0, 3), 0, "test behind a lower strike");
    due(x.prize(1, 1), 1, "the second prize, as the test of the first one does not hold");
    due(x.fist(0, 4), 16, "purse");
    outOfBounds(() -> x.prize(2, 0));
    outOfBounds(() -> x.prize(-1, 0));
    outOfBounds(() -> x.prize(0, 4));
    outOfBounds(() -> x.prize(0, -1));
    BellHammer y = taught(FAIR + "prize p worth 1 of 1 when height >= 0;"
        + "prize q worth left p + 5 of 1 when best a = height and sore f = 4;");
    y.strike(0, 0);
    y.strike(1, 0);
    y.strike(1, 0);
    due(y.prize(0, 1), 1, "a prize is given as often as it is there");
    due(y.prize(1, 1), 1, "the best height has the latest strike in it");
    due(y.fist(1, 4), 5, "worth with none left of p");
    due(y.prize(1, 0), 0, "none left");
    due(taught("prize p worth 1 of 0 when height = 0;").prize(0, 3), 1, "test of none left");
  }

  private static void promise9Language() {
    promise = 9;
    worthIs("2 + 3 * 4", 14);
    worthIs("(2 + 3) * 4", 20);
    worthIs("10 - 3 - 2", 5);
    worthIs("100 / 5 / 2", 10);
    worthIs("7 / 2 * 2", 6);
    worthIs("-7 / 2", -3);
    worthIs("7 / -2", -3);
    worthIs("(0 - 7) / 2", -3);
    worthIs("5 / 0", 0);
    worthIs("0 / 0", 0);
    worthIs("5 / (1 - 1) + 1", 1);
    worthIs("- - 3 - -2", 5);
    worthIs("min(3, -4) + max(3, -4) * 10", 26);
    worthIs("min(2, 2) + max(1, 0 - 1)", 3);
    worthIs("999999 * 999999", (int) (999999L * 999999L));
    worthIs("65536 * 32768", Integer.MIN_VALUE);
    worthIs("65536 * 32768 / -1", Integer.MIN_VALUE);
    worthIs("-(65536 * 32768)", Integer.MIN_VALUE);
    worthIs("65536 * 32768 - 1", Integer.MAX_VALUE);
    worthIs("65536 * 32768 - 1 + 1", Integer.MIN_VALUE);
    holds("1 < 2", 1);
    holds("2 < 2", 0);
    holds("2 <= 2", 1);
    holds("3 <= 2", 0);
    holds("2 > 2", 0);
    holds("3 > 2", 1);
    holds("2 >= 2", 1);
    holds("1 >= 2", 0);
    holds("2 = 2", 1);
    holds("2 = 3", 0);
    holds("65536 * 32768 < 0 - 1", 1);
    holds("0 < 65536 * 32768", 0);
    holds("1 = 1 or 1 = 2 and 1 = 2", 1);
    holds("[1 = 1 or 1 = 2] and 1 = 2", 0);
    holds("1 = 2 and 1 = 2 or 1 = 1", 1);
    holds("not 1 = 2 and 1 = 2", 0);
    holds("not [1 = 2 and 1 = 2]", 1);
    holds("not 1 = 1 or 1 = 1", 1);
    holds("not not 1 = 1", 1);
    holds("1 = 1 and not 1 = 2", 1);
    holds("1 = 2 or not 1 = 1", 0);
    holds("rings", 0);
    holds("not rings", 1);
    holds("1 / 0 = 0 or 1 / 0 = 1", 1);
  }

  private static void promise10Turn() {
    promise = 10;
    BellHammer x = taught(FAIR + "fist h arm 1 aim 1 elbows 9;"
        + "turn f at b; turn g at a when round > 0 and rings; turn h at a when round = 0;");
    due(x.turn(0, 0), 0, "fist");
    due(x.turn(0, 1), 1, "rail");
    due(x.turn(1, 0), 1, "fist");
    due(x.turn(1, 1), 0, "rail");
    due(x.turn(0, 2), 0, "place");
    due(x.turn(2, 2), 2, "place");
    due(x.turn(0, 3), 1, "without a test");
    due(x.turn(1, 3), 0, "test");
    due(x.turn(2, 3), 1, "test");
    x.pass(2);
    due(x.turn(2, 2), 0, "place behind two swaps");
    due(x.turn(0, 2), 1, "place behind a swap");
    due(x.turn(1, 2), 2, "place behind a swap");
    due(x.turn(2, 3), 0, "test now");
    due(x.turn(0, 0), 0, "turns keep their numbers");
    x.strike(1, 1);
    x.strike(0, 1);
    outOfBounds(() -> x.turn(3, 0));
    outOfBounds(() -> x.turn(-1, 0));
    outOfBounds(() -> x.turn(0, 4));
    outOfBounds(() -> x.turn(0, -1));
  }

  private static void promise11Board() {
    promise = 11;
    BellHammer x = taught(FAIR);
    outOfBounds(() -> x.board(0));
    x.strike(0, 0);
    x.strike(1, 0);
    due(x.board(0), 20, "the latest");
    due(x.board(1), 15, "the one ahead of it");
    outOfBounds(() -> x.board(2));
    outOfBounds(() -> x.board(-1));
    for (int i = 0; i < 8; i++) {
      x.strike(0, 0);
    }
    due(x.board(9), 15, "the oldest of ten");
    due(x.board(8), 20, "the second of ten");
    x.strike(0, 0);
    due(x.board(9), 20, "the first one is gone");
    outOfBounds(() -> x.board(10));
  }

  private static void promise12Strike() {
    promise = 12;
    BellHammer x = taught(FAIR + "prize p worth bells + sore g of 1 when rings;");
    due(x.strike(0, 0), 15, "a strike that does not ring");
    due(x.strike(1, 0), 20, "a strike that rings");
    due(x.fist(1, 4), 5, "sore by the puck ahead of the prizes");
    due(x.strike(1, 0), 10, "a sore arm strikes with less: 8 - 4");
    due(x.strike(0, 0), 1, "5 - 4");
    BellHammer z = taught(FAIR + "prize p worth 1 of 9 when not rings;"
        + "prize q worth 10 of 9 when rings and 1 = 1; prize r worth 100 of 9 when 1 = 1;");
    z.strike(1, 0);
    due(z.count(7), 10, "rings, and so does not hold with not");
    z.strike(0, 0);
    due(z.count(7), 11, "does not ring");
    due(x.strike(0, 0), 0, "no force is left");
    due(x.board(0), 0, "a puck that does not fly is on the board");
    due(x.count(0), 0, "out of turn, so the round stays");
    due(x.count(5), 5, "strikes");
    outOfBounds(() -> x.strike(2, 0));
    outOfBounds(() -> x.strike(-1, 0));
    outOfBounds(() -> x.strike(0, 2));
    outOfBounds(() -> x.strike(0, -1));
    due(x.count(5), 5, "a refused strike changes nothing");
    BellHammer y = taught("rail a high 20 puck 9 spring 1; fist f arm 1 aim 0 elbows 0;");
    for (int i = 1; i <= 8; i++) {
      y.strike(0, 0);
      due(y.fist(0, 3), Math.min(60, 9 * i), "sore at most 60");
    }
  }

  private static void promise13Wind() {
    promise = 13;
    BellHammer x = taught(FAIR);
    due(x.wind(0, 20), 10, "the spring before");
    due(x.wind(0, 0), 20, "the spring before");
    due(x.rail(0, 2), 0, "the new spring");
    due(x.rail(1, 2), 20, "the other spring");
    due(x.would(1, 0, 2), 9, "ticks without a spring: the puck falls at rest from 20");
    outOfBounds(() -> x.wind(2, 0));
    outOfBounds(() -> x.wind(-1, 21));
    illegalArgument(() -> x.wind(0, 21));
    illegalArgument(() -> x.wind(0, -1));
    due(x.rail(0, 2), 0, "a refused spring changes nothing");
  }

  private static void promise14Pass() {
    promise = 14;
    BellHammer x = taught(FAIR + "prize p worth 1 of 3 when rings; prize q worth 2 of 2 when bells = 0;"
        + "turn f at a when round / 2 * 2 = round; turn g at b;");
    due(x.pass(1), 2, "a prize for each turn");
    due(x.fist(0, 4), 2, "purse of f");
    due(x.fist(1, 4), 1, "purse of g");
    due(x.pass(1), 1, "the turn of f is not due");
    due(x.count(5), 3, "strikes");
    due(x.pass(30), 2, "all prizes are gone then");
    due(x.count(0), 32, "round");
    illegalArgument(() -> x.pass(0));
    illegalArgument(() -> x.pass(31));
    illegalArgument(() -> x.pass(-1));
    due(x.count(0), 32, "a refused pass changes nothing");
    BellHammer y = taught(RAIL + "fist f arm 8 aim 0 elbows 0; fist g arm 5 aim 0 elbows 0;"
        + "turn f at a; turn g at a when rings; turn g at a when not rings;");
    y.pass(1);
    due(y.count(5), 3, "a test is reckoned when its turn comes");
  }

  private static void promise14Elbows() {
    promise = 14;
    String fists = RAIL + "fist f arm 5 aim 0 elbows 2; fist g arm 5 aim 0 elbows 4;"
        + "fist h arm 5 aim 0 elbows 7;";
    BellHammer x = taught(fists + "turn f at a; turn g at a; turn h at a;");
    x.pass(1);
    // g has not more than 2 + 2; h has more than 4 + 2.
    due(x.turn(0, 2), 0, "f stays ahead");
    due(x.turn(2, 2), 1, "h is ahead of g");
    due(x.turn(1, 2), 2, "g is last");
    due(x.fist(2, 2), 6, "one elbow less");
    due(x.fist(1, 2), 4, "no elbow less");
    x.pass(1);
    due(x.turn(2, 2), 0, "h is ahead of f one round later");
    due(x.fist(2, 2), 5, "one elbow less");
    x.pass(5);
    due(x.turn(2, 2), 0, "h stays ahead");
    due(x.fist(2, 2), 5, "nobody is left to push");
    BellHammer y = taught(RAIL + "fist f arm 5 aim 0 elbows 0; fist g arm 5 aim 0 elbows 3;"
        + "turn f at a; turn g at a; turn f at a; turn g at a;");
    y.pass(1);
    due(y.turn(1, 2), 0, "g pushes with 3 against 0");
    due(y.turn(3, 2), 3, "the second turn of g can't push with 2 against 0");
    due(y.fist(1, 2), 2, "elbows of g");
    BellHammer z = taught(RAIL + "fist f arm 5 aim 0 elbows 0; fist g arm 5 aim 0 elbows 9;"
        + "turn f at a; turn f at a; turn g at a;");
    z.pass(1);
    due(z.turn(2, 2), 1, "one place a round, as the row is gone through once");
    due(z.turn(0, 2), 0, "the first turn stays");
  }

  private static void promise14Rest() {
    promise = 14;
    BellHammer x = taught(FAIR + "turn g at a when round = 1;");
    x.strike(0, 0);
    x.strike(0, 0);
    due(x.fist(0, 3), 8, "sore");
    x.pass(1);
    due(x.fist(0, 3), 8, "a strike out of turn counts in the round that it is ahead of");
    x.pass(1);
    due(x.fist(0, 3), 5, "rest");
    due(x.fist(1, 3), 4, "no rest for a strike in turn");
    x.pass(1);
    due(x.fist(0, 3), 2, "rest");
    due(x.fist(1, 3), 1, "rest");
    x.pass(1);
    due(x.fist(0, 3), 0, "at least 0");
    due(x.fist(1, 3), 0, "at least 0");
    BellHammer y = taught("rail a high 20 puck 3 spring 0; fist f arm 9 aim 0 elbows 0;");
    y.strike(0, 0);
    y.pass(2);
    due(y.fist(0, 3), 0, "3 less 3");
  }

  private static void promise15Would() {
    promise = 15;
    BellHammer x = taught(FAIR);
    due(x.would(0, 0, 0), 15, "height");
    due(x.would(0, 0, 1), 0, "bells");
    due(x.would(0, 0, 2), 11, "ticks");
    due(x.would(1, 0, 0), 20, "height with a bell");
    due(x.would(1, 0, 1), 1, "one bell");
    due(x.would(1, 0, 2), 10, "ticks with a bounce");
    due(x.count(5), 0, "nothing is changed");
    due(x.fist(0, 3), 0, "nothing is changed");
    due(x.count(8), 0, "nothing is changed");
    x.strike(0, 0);
    due(x.would(0, 0, 0), 1, "with a sore arm: speed 1");
    due(x.would(0, 0, 2), 3, "with a sore arm: 1, 1, 0");
    x.strike(0, 0);
    due(x.would(0, 0, 0), 0, "without force");
    due(x.would(0, 0, 1), 0, "without force");
    due(x.would(0, 0, 2), 0, "without force");
    BellHammer y = taught("rail a high 20 puck 9 spring 20; fist f arm 2 aim 0 elbows 0;"
        + "fist g arm 1 aim 2 elbows 0;");
    due(y.would(0, 0, 2), 0, "8 / 9 is a speed of 0");
    due(y.would(1, 0, 2), 3, "12 / 9 is a speed of 1, and the aim counts");
    BellHammer z = taught("rail a high 20 puck 1 spring 10; fist f arm 5 aim 0 elbows 0;");
    due(z.would(0, 0, 0), 20, "the high itself rings");
    due(z.would(0, 0, 1), 1, "the high itself rings");
    outOfBounds(() -> x.would(2, 0, 0));
    outOfBounds(() -> x.would(-1, 0, 0));
    outOfBounds(() -> x.would(0, 2, 0));
    outOfBounds(() -> x.would(0, -1, 0));
    outOfBounds(() -> x.would(0, 0, 3));
    outOfBounds(() -> x.would(0, 0, -1));
  }

  private static void promise15Rust() {
    promise = 15;
    // Speeds 5 4 (rust at 9: 3 - 1) 2, 0, -1, ..: places 5 9 11 11 10 8 5 1 0.
    pathIs(RAIL + FIST + "rust on a from 9 to 11 by 1;", 5, 9, 11, 11, 10, 8, 5, 1, 0);
    pathIs(RAIL + FIST + "rust on a from 9 to 9 by 1;", 5, 9, 11, 12, 12, 11, 9, 6, 2, 0);
    pathIs(RAIL + FIST + "rust on a from 8 to 8 by 9; rust on a from 10 to 11 by 9;",
        5, 9, 12, 14, 15, 15, 14, 12, 9, 5, 0);
    pathIs(RAIL + FIST + "rust on a from 5 to 6 by 1; rust on a from 4 to 5 by 2;",
        5, 6, 6, 5, 3, 0);
    pathIs("rail b high 20 puck 4 spring 10;" + RAIL.replace(" a ", " c ") + FIST
        + "rust on c from 0 to 99 by 9;", 5, 9, 12, 14, 15, 15, 14, 12, 9, 5, 0);
    // The rust at 0 slows a bounce: 2 less 1 and 1 is 0, so the puck lies there for the last tick.
    pathIs(RAIL + "fist f arm 8 aim 0 elbows 0; rust on a from 0 to 0 by 1;",
        8, 15, 20, 16, 11, 5, 0, 0);
    pathIs(RAIL + "fist f arm 8 aim 0 elbows 0;", 8, 15, 20, 16, 11, 5, 0, 1, 1, 0);
  }

  private static void promise16Path() {
    promise = 16;
    BellHammer x = taught(FAIR);
    int[] places = {0, 5, 9, 12, 14, 15, 15, 14, 12, 9, 5, 0, 0, 0};
    for (int tick = 0; tick < places.length; tick++) {
      due(x.path(0, 0, tick), places[tick], "path(0, 0, " + tick + ")");
    }
    due(x.path(0, 0, 300), 0, "behind the end");
    // A ring at 27 sends the puck down with 20 at most, and it bounces with 20 * 20 / 30.
    pathIs("rail a high 99 puck 4 spring 20; fist f arm 30 aim 0 elbows 0;",
        30, 59, 87, 99, 79, 59, 39, 19, 0, 12, 23, 33, 42, 50, 57, 63, 68, 72, 75, 77, 78, 78, 77,
        75, 72, 68, 63, 57, 50, 42, 33, 23, 12, 0, 7, 13, 18, 22, 25, 27, 28, 28, 27, 25, 22, 18,
        13, 7, 0, 3, 5, 6, 6, 5, 3, 0, 1, 1, 0);
    // 24 * 14 / 20 is 16, and 17, 18, 19, 20, 20 behind it; 20 * 14 / 30 is 9.
    pathIs("rail a high 99 puck 4 spring 14; fist f arm 27 aim 0 elbows 0;",
        27, 53, 78, 99, 82, 64, 45, 25, 5, 0, 8, 15, 21, 26, 30, 33, 35, 36, 36, 35, 33, 30, 26, 21,
        15, 8, 0, 2, 3, 3, 2, 0);
    // 24 * 16 / 20 is 19, and 20 * 16 / 30 is 10.
    pathIs("rail a high 99 puck 4 spring 16; fist f arm 27 aim 0 elbows 0;",
        27, 53, 78, 99, 79, 59, 39, 19, 0, 9, 17, 24, 30, 35, 39, 42, 44, 45, 45, 44, 42, 39, 35, 30,
        24, 17, 9, 0, 3, 5, 6, 6, 5, 3, 0);
    due(x.count(5), 0, "nothing is changed");
    outOfBounds(() -> x.path(2, 0, 0));
    outOfBounds(() -> x.path(0, 2, 0));
    outOfBounds(() -> x.path(-1, 0, 301));
    outOfBounds(() -> x.path(0, -1, -1));
    illegalArgument(() -> x.path(0, 0, 301));
    illegalArgument(() -> x.path(0, 0, -1));
  }

  private static void promise17Needs() {
    promise = 17;
    BellHammer x = taught(FAIR + "fist h arm 1 aim 5 elbows 0; fist i arm 1 aim 6 elbows 0;");
    // A speed of 6 comes to 6 + 5 + 4 + 3 + 2 + 1 = 21, one of 5 to 15.
    due(x.needs(0, 0), 6, "the least arm");
    due(x.needs(1, 0), 6, "the own arm counts not");
    due(x.needs(2, 0), 1, "the aim counts");
    due(x.needs(3, 0), 1, "at least 1");
    x.strike(0, 0);
    due(x.needs(0, 0), 10, "a sore arm needs more");
    BellHammer z = taught("rail a high 70 puck 8 spring 0; rail b high 68 puck 8 spring 0;"
        + "rust on a from 0 to 99 by 9;".repeat(3) + "rust on a from 0 to 99 by 2;"
        + "rust on b from 0 to 99 by 9;".repeat(3) + "rust on b from 0 to 99 by 2;"
        + "fist f arm 1 aim 0 elbows 0;");
    due(z.needs(0, 0), -1, "50 + 20 is 70, but 4 * 99 / 8 is 49");
    due(z.needs(0, 1), 98, "49 + 19 is 68, and 4 * 98 / 8 is 49");
    due(x.count(5), 1, "nothing is changed");
    due(x.fist(0, 0), 5, "nothing is changed");
    BellHammer y = taught("rail a high 98 puck 9 spring 0; rail b high 21 puck 9 spring 0;"
        + "rail c high 99 puck 9 spring 0; rust on a from 0 to 99 by 9; rust on a from 0 to 99 by 3;"
        + "rust on c from 0 to 99 by 9; rust on c from 0 to 99 by 3; fist f arm 1 aim 0 elbows 0;");
    due(y.needs(0, 1), 14, "4 * 14 / 9 is the first speed of 6");
    due(y.needs(0, 0), 99, "44 + 31 + 18 + 5 is 98, and 4 * 99 / 9 is the first speed of 44");
    due(y.needs(0, 2), -1, "no arm comes to 99");
    outOfBounds(() -> x.needs(4, 0));
    outOfBounds(() -> x.needs(-1, 0));
    outOfBounds(() -> x.needs(0, 2));
    outOfBounds(() -> x.needs(0, -1));
  }

  private static void promise18Foresee() {
    promise = 18;
    String bill = FAIR + "prize p worth 3 + round of 5 when rings; prize q worth 1 of 9 when height < 9;"
        + "turn f at a; turn g at a when sore g < 9; turn g at b when round > 3;";
    BellHammer x = taught(bill);
    x.strike(1, 1);
    x.pass(2);
    for (int rounds = 1; rounds <= 30; rounds++) {
      BellHammer y = taught(bill);
      y.strike(1, 1);
      y.pass(2);
      int bells = y.count(6);
      int strikes = y.count(5);
      long before = x.digest();
      due(x.foresee(rounds, 0), y.pass(rounds), "prizes");
      due(x.foresee(rounds, 1), y.count(7), "purses");
      due(x.foresee(rounds, 2), y.count(6) - bells, "bells");
      due(x.foresee(rounds, 3), y.count(5) - strikes, "strikes");
      due(x.digest() == before ? 1 : 0, 1, "nothing is changed");
    }
    String rich = "rail a high 60 puck 2 spring 19; rail b high 40 puck 3 spring 7;"
        + "rust on a from 10 to 30 by 1; rust on b from 0 to 5 by 2;"
        + "fist f arm 9 aim 4 elbows 1; fist g arm 15 aim 3 elbows 8;"
        + "prize p worth best a + sore g of 9 when rings and bells < 3;"
        + "prize q worth best b * 10 + purse f of 9 when height > 20;"
        + "prize r worth 1 + left p * 1000 + round of 50 when not rings;"
        + "turn f at a when height > 3; turn f at b; turn g at a when bells = 0; turn g at b;";
    for (int done = 0; done <= 4; done++) {
      BellHammer y = taught(rich);
      BellHammer z = taught(rich);
      for (BellHammer each : new BellHammer[] {y, z}) {
        for (int i = 0; i < done; i++) {
          each.pass(1);
          each.strike(i % 2, 0);
        }
      }
      int foreseen = z.foresee(3, 1);
      y.pass(3);
      due(foreseen, y.count(7), "purses with rust, elbows and sore arms");
      z.pass(3);
      due(y.digest() == z.digest() ? 1 : 0, 1, "foresee changes nothing");
    }
    BellHammer rested = taught(FAIR + "prize p worth sore f of 9 when height > 15;"
        + "turn f at b when height = 15 and round > 5; turn g at b;");
    rested.strike(0, 0);
    due(rested.foresee(1, 1), 4, "the sore arm of f");
    due(rested.foresee(2, 1), 8, "no rest in the round of a strike out of turn");
    due(rested.foresee(3, 1), 9, "rest in the round behind it");
    BellHammer high = taught(FAIR + "turn f at a when height = 15; turn g at a when height = 20;");
    high.strike(0, 0);
    due(high.foresee(1, 3), 1, "the height of the latest strike");
    illegalArgument(() -> x.foresee(0, 0));
    illegalArgument(() -> x.foresee(31, 0));
    illegalArgument(() -> x.foresee(0, 4));
    outOfBounds(() -> x.foresee(1, 4));
    outOfBounds(() -> x.foresee(1, -1));
    BellHammer z = taught("rail a high 20 puck 1 spring 20; fist f arm 60 aim 20 elbows 0;"
        + "prize p worth 2 of 9 when bells > 1; turn f at a;");
    due(z.foresee(2, 0), 2, "prizes");
    due(z.foresee(2, 1), 4, "purses");
    due(z.foresee(2, 2), z.would(0, 0, 1) * 2, "bells");
    due(z.foresee(2, 3), 2, "strikes");
  }

  private static void promise19Advise() {
    promise = 19;
    String bill = "rail a high 20 puck 1 spring 3; rail b high 20 puck 1 spring 20;"
        + "fist f arm 20 aim 0 elbows 0;"
        + "prize p worth 9 - 4 * bells of 50 when rings; turn f at a;";
    for (int rounds = 1; rounds <= 4; rounds++) {
      BellHammer x = taught(bill);
      long before = x.digest();
      int advised = x.advise(0, rounds);
      due(x.digest() == before ? 1 : 0, 1, "nothing is changed");
      due(advised, leastSpring(bill, rounds), "advise(0, " + rounds + ")");
      due(x.advise(1, rounds), 0, "of several the least: nobody strikes at b");
    }
    due(taught(bill).advise(0, 1) > 0 ? 1 : 0, 1, "the spring of this bill is not the first one");
    String costly = bill.replace("9 - 4 * bells", "100 - (bells - 2) * (4 - bells)");
    due(taught(costly).advise(0, 1), leastSpring(costly, 1), "purses above 0");
    String even = bill.replace("9 - 4 * bells", "100 + (bells - 2) * (bells - 2)");
    due(taught(even).advise(0, 1), leastSpring(even, 1), "the least is in the middle");
    BellHammer x = taught(bill);
    outOfBounds(() -> x.advise(2, 1));
    outOfBounds(() -> x.advise(-1, 0));
    illegalArgument(() -> x.advise(0, 0));
    illegalArgument(() -> x.advise(0, 5));
  }

  private static int leastSpring(String bill, int rounds) {
    int least = Integer.MAX_VALUE;
    int best = -1;
    for (int spring = 20; spring >= 0; spring--) {
      BellHammer x = taught(bill);
      x.wind(0, spring);
      x.pass(rounds);
      if (x.count(7) <= least) {
        least = x.count(7);
        best = spring;
      }
    }
    return best;
  }

  private static void promise20Mean() {
    promise = 20;
    BellHammer x = taught(FAIR);
    meanIs(x, 0.0);
    x.strike(0, 0);
    meanIs(x, 15.0);
    x.strike(1, 0);
    meanIs(x, 17.5);
    x.strike(0, 0);
    meanIs(x, 12.0);
    for (int i = 0; i < 8; i++) {
      x.strike(0, 0);
    }
    meanIs(x, 2.1);
  }

  private static void promise21Digest() {
    promise = 21;
    long empty = 761;
    for (int i = 0; i < 10; i++) {
      empty *= 31;
    }
    digestIs(new BellHammer(), empty);
    BellHammer x = taught(FAIR + "prize p worth 0 - 7 of 50 when rings; turn f at a; turn g at b;");
    x.pass(3);
    feedText(x, "rail");
    long d = 761;
    for (int what = 0; what <= 9; what++) {
      d = d * 31 + x.count(what);
    }
    for (int i = 0; i < 10; i++) {
      d = d * 31 + x.rail(i / 5, i % 5);
    }
    for (int i = 0; i < 18; i++) {
      d = d * 31 + x.fist(i / 9, i % 9);
    }
    for (int i = 0; i < 4; i++) {
      d = d * 31 + x.prize(0, i);
    }
    for (int i = 0; i < 8; i++) {
      d = d * 31 + x.turn(i / 4, i % 4);
    }
    for (int i = 0; i < 6; i++) {
      d = d * 31 + x.board(i);
    }
    digestIs(x, d);
  }

  private static BellHammer taught(String bill) {
    BellHammer x = new BellHammer();
    feedText(x, bill);
    if (x.teach() != 0) {
      fail("this bill is refused at " + x.errorAt() + ": " + bill);
    }
    return x;
  }

  private static int teach(BellHammer x, String bill) {
    feedText(x, bill);
    return x.teach();
  }

  private static void feedText(BellHammer x, String text) {
    int[] numbers = new int[5];
    for (int from = 0; from < text.length(); from += 20) {
      for (int i = 0; i < 20; i++) {
        int sign = from + i < text.length() ? text.charAt(from + i) : ' ';
        numbers[i / 4] = numbers[i / 4] << 8 | sign;
      }
      x.feed(numbers[0], numbers[1], numbers[2], numbers[3], numbers[4]);
    }
    x.trim(text.length());
  }

  private static String worth(String sum) {
    return "prize p worth " + sum + " of 1 when rings;";
  }

  private static String when(String test) {
    return "prize p worth 1 of 1 when " + test + ";";
  }

  private static void worthIs(String sum, int value) {
    due(taught(worth(sum)).prize(0, 2), value, sum);
  }

  private static void holds(String test, int value) {
    due(taught(when(test)).prize(0, 3), value, test);
  }

  private static void accepted(String bill) {
    refused(bill, 0, -1);
  }

  private static void refused(String bill, int error, int at) {
    BellHammer x = new BellHammer();
    due(teach(x, bill), error, "teach() of " + bill);
    due(x.errorAt(), at, "errorAt() of " + bill);
  }

  /** The places of a puck of fist 0 at rail 0 behind tick 1, 2, .., the last one where it ends. */
  private static void pathIs(String bill, int... places) {
    BellHammer x = taught(bill);
    due(x.would(0, 0, 2), places.length, "ticks of " + bill);
    for (int tick = 1; tick <= places.length; tick++) {
      due(x.path(0, 0, tick), places[tick - 1], "tick " + tick + " of " + bill);
    }
  }

  private static void meanIs(BellHammer x, double value) {
    if (x.mean() != value) {
      fail("mean() answered " + x.mean() + ", due is " + value);
    }
  }

  private static void digestIs(BellHammer x, long value) {
    if (x.digest() != value) {
      fail("digest() answered " + x.digest() + ", due is " + value);
    }
  }

  private static void due(int got, int want, String what) {
    if (got != want) {
      fail(what + " answered " + got + ", due is " + want);
    }
  }

  private static void outOfBounds(IntSupplier call) {
    throwsOne(IndexOutOfBoundsException.class, call);
  }

  private static void illegalArgument(IntSupplier call) {
    throwsOne(IllegalArgumentException.class, call);
  }

  private static void illegalState(IntSupplier call) {
    throwsOne(IllegalStateException.class, call);
  }

  private static void throwsOne(Class<?> kind, IntSupplier call) {
    try {
      fail("answered " + call.getAsInt() + ", due is " + kind.getSimpleName());
    } catch (RuntimeException thrown) {
      if (thrown.getClass() != kind) {
        fail("threw " + thrown + ", due is " + kind.getSimpleName());
      }
    }
  }

  private static void fail(String text) {
    wrong++;
    System.out.println("promise " + promise + ": " + text);
  }
}
