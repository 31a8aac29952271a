/** The edges of "2. Strikes and rounds": flights, strikes, prizes, rounds, and what sums read. */
public final class StrikeEdgeTest extends Edge {
  private static final String RAIL = "rail a high 20 puck 4 spring 10;";
  private static final String FIST = "fist f arm 5 aim 0 elbows 0;";
  private static final String RUST_AT = "rust on a from ";
  // A force of 5 at a rail with a puck of 4 and without spring: 5, 4, 3, 2, 1, 0, -1, .. -5.
  private static final int[] FREE = {5, 9, 12, 14, 15, 15, 14, 12, 9, 5, 0};

  public static void main(String[] args) {
    keepsSoreTo60();
    keepsPrizesAsTold();
    strikesWithForce();
    startsWithSpeed();
    fliesNotWithSpeed0();
    fliesAtMost300Ticks();
    ringsAtHigh();
    fallsBehindRing();
    endsAtSpeed1();
    bouncesOn();
    losesSpeedUpwards();
    fallsWith20AtMost();
    addsRustOfPlace();
    rustsAtBothEnds();
    tellsHighestPlaceAndBells();
    strikesInOrder();
    givesTheFirstPrize();
    addsWorthToThePurse();
    pushesWithElbows();
    pushesFromSecondToLast();
    takesTurnsIfTestHolds();
    rests();
    countsRounds();
    readsNothingAtFirst();
    readsTheLatestStrike();
    bindsTests();
    end();
  }

  // ---- what there is

  private static void keepsSoreTo60() {
    sentence(8, "A fist has a purse (0, at first), and is sore by 0 (at first) to 60.");
    BellHammer x = taught("rail a high 20 puck 9 spring 0; rail b high 20 puck 5 spring 0;"
        + "rail c high 20 puck 1 spring 0; rail d high 20 puck 6 spring 0;" + FIST
        + "fist g arm 60 aim 20 elbows 0;");
    due(x.fist(0, 3), 0, "sore at first");
    due(x.fist(0, 4), 0, "purse at first");
    for (int i = 1; i <= 6; i++) {
      x.strike(0, 0);
      due(x.fist(0, 3), 9 * i, "sore by 9 a strike");
    }
    x.strike(0, 1);
    due(x.fist(0, 3), 59, "sore");
    x.strike(0, 2);
    due(x.fist(0, 3), 60, "as sore as can be");
    x.strike(0, 2);
    due(x.fist(0, 3), 60, "not sorer than 60");
    x.strike(0, 0);
    due(x.fist(0, 3), 60, "not sorer than 60 by 9");
    for (int i = 1; i <= 12; i++) {
      x.strike(1, 3);
      due(x.fist(1, 3), Math.min(60, 6 * i), "sore by 6 a strike");
    }
    due(x.would(1, 1, 0), 20, "a force of 80 less 60");
    x.pass(1);
    due(x.fist(0, 3), 60, "no rest behind a strike");
    x.pass(1);
    due(x.fist(0, 3), 57, "rest from 60");
    BellHammer y = taught("rail a high 20 puck 9 spring 0; rail b high 20 puck 3 spring 0;" + FIST);
    for (int i = 0; i < 6; i++) {
      y.strike(0, 0);
    }
    y.strike(0, 1);
    due(y.fist(0, 3), 57, "sore");
    y.strike(0, 0);
    due(y.fist(0, 3), 60, "57 and 9 is 60 at most");
  }

  private static void keepsPrizesAsTold() {
    sentence(9, "A prize is there as often as is told.");
    BellHammer x = taught(RAIL + FIST + "prize p worth 100 of 0 when height >= 0;"
        + "prize q worth 10 of 1 when height >= 0; prize r worth 1 of 99 when height >= 0;");
    due(x.prize(0, 0), 0, "none from the beginning");
    due(x.prize(1, 0), 1, "one");
    due(x.prize(2, 0), 99, "99");
    x.strike(0, 0);
    due(x.prize(0, 1), 0, "a prize that is not there is never given");
    due(x.prize(1, 1), 1, "the one prize is given");
    for (int i = 1; i <= 99; i++) {
      x.strike(0, 0);
      due(x.prize(2, 0), 99 - i, "left of 99");
    }
    due(x.fist(0, 4), 109, "the purse with all prizes");
    x.strike(0, 0);
    due(x.fist(0, 4), 109, "the purse when no prize is left");
    due(x.prize(2, 0), 0, "none left");
    due(x.prize(2, 1), 99, "given");
    due(x.prize(1, 1), 1, "given once only");
  }

  // ---- flights

  private static BellHammer one(int high, int puck, int spring, int force, String more) {
    int arm = Math.min(60, force);
    return taught("rail a high " + high + " puck " + puck + " spring " + spring + ";"
        + "fist f arm " + arm + " aim " + (force - arm) + " elbows 0;" + more);
  }

  private static BellHammer one(int high, int puck, int spring, int force) {
    return one(high, puck, spring, force, "");
  }

  /** The places behind tick 1, 2, and so on. */
  private static void startsWith(BellHammer x, int... places) {
    due(x.path(0, 0, 0), 0, "path at tick 0");
    for (int tick = 1; tick <= places.length; tick++) {
      due(x.path(0, 0, tick), places[tick - 1], "path at tick " + tick);
    }
  }

  /** The same, and the flight ends behind the last of these places. */
  private static void pathIs(BellHammer x, int... places) {
    int highest = 0;
    for (int place : places) {
      highest = Math.max(highest, place);
    }
    startsWith(x, places);
    due(x.would(0, 0, 2), places.length, "ticks");
    due(x.would(0, 0, 0), highest, "height");
    due(x.path(0, 0, places.length + 1), 0, "path behind the end");
    due(x.path(0, 0, 300), 0, "path at tick 300");
  }

  private static void strikesWithForce() {
    sentence(12, "A fist strikes with a force of its arm and its aim, added, less by how much it is"
        + " sore, at least 0.");
    BellHammer x = one(20, 4, 0, 5);
    due(x.strike(0, 0), 15, "a strike with 5");
    pathIs(x, 1, 1, 0);
    due(x.strike(0, 0), 1, "a strike with 5 less 4");
    pathIs(x);
    due(x.strike(0, 0), 0, "a strike with 5 less 8");
    BellHammer y = one(20, 4, 0, 4);
    y.strike(0, 0);
    pathIs(y);
    due(y.strike(0, 0), 0, "a strike with 4 less 4");
    BellHammer z = taught(RAIL + "fist f arm 1 aim 4 elbows 0; fist g arm 4 aim 1 elbows 9;");
    due(z.would(0, 0, 0), 15, "arm and aim, added");
    due(z.would(1, 0, 0), 15, "arm and aim, added");
    due(one(99, 4, 0, 80).path(0, 0, 1), 80, "the greatest force");
  }

  private static void startsWithSpeed() {
    sentence(16, "The puck starts at 0 with a speed of 4 * force / puck");
    startsWith(one(99, 9, 0, 8), 3, 5);
    startsWith(one(99, 9, 0, 9), 4, 7);
    startsWith(one(99, 9, 0, 3), 1);
    startsWith(one(99, 7, 0, 5), 2, 3);
    startsWith(one(99, 1, 0, 5), 20, 39);
    startsWith(one(99, 1, 0, 1), 4, 7, 9, 10, 10);
    startsWith(one(99, 4, 0, 80), 80, 99);
    startsWith(one(99, 1, 20, 80), 99, 79, 59);
    due(one(99, 1, 0, 80).would(0, 0, 0), 99, "the greatest speed");
  }

  private static void fliesNotWithSpeed0() {
    sentence(15, "with a speed of 0 it does not fly: it has a height of 0, behind 0 ticks.");
    BellHammer x = one(20, 9, 20, 2);
    pathIs(x);
    due(x.would(0, 0, 1), 0, "bells without a flight");
    due(x.strike(0, 0), 0, "a strike without a flight");
    due(x.count(5), 1, "a strike without a flight is one");
    due(x.board(0), 0, "its height is on the board");
    due(x.fist(0, 3), 9, "it makes sore");
    pathIs(one(20, 9, 20, 3), 1, 1, 0);
    pathIs(one(20, 4, 20, 1), 1, 1, 0);
    pathIs(one(20, 5, 20, 1));
    pathIs(one(20, 8, 20, 2), 1, 1, 0);
    BellHammer longer = taught(RAIL + FIST + "rail b high 20 puck 9 spring 0;"
        + "fist g arm 1 aim 0 elbows 0;");
    due(longer.path(0, 0, 5), 15, "a flight");
    due(longer.path(1, 1, 5), 0, "no flight behind a flight");
    due(longer.would(1, 1, 0) + longer.would(1, 1, 2), 0, "no flight behind a flight");
  }

  private static void fliesAtMost300Ticks() {
    sentence(16, "Otherwise it flies tick by tick, at most 300");
    // Of all the flights that were tried, with and without rust, none is longer than this one.
    BellHammer x = one(91, 1, 20, 5);
    due(x.would(0, 0, 2), 62, "ticks of the longest flight");
    due(x.path(0, 0, 1), 20, "the first place");
    due(x.path(0, 0, 61), 1, "the last place ahead of the end");
    due(x.path(0, 0, 62), 0, "the end");
    due(x.path(0, 0, 63), 0, "behind the end");
    due(x.path(0, 0, 299), 0, "tick 299");
    due(x.path(0, 0, 300), 0, "tick 300");
    illegalArgument("tick 301", x, y -> y.path(0, 0, 301));
  }

  private static void ringsAtHigh() {
    sentence(15, "If it is at the high of the rail or beyond it then, it is there, the bell rings");
    BellHammer at = one(21, 4, 0, 6);
    pathIs(at, 6, 11, 15, 18, 20, 21, 20, 18, 15, 11, 6, 0);
    due(at.would(0, 0, 1), 1, "bells at the high itself");
    BellHammer under = one(22, 4, 0, 6);
    pathIs(under, 6, 11, 15, 18, 20, 21, 21, 20, 18, 15, 11, 6, 0);
    due(under.would(0, 0, 1), 0, "bells one below the high");
    BellHammer beyond = one(20, 4, 0, 7);
    pathIs(beyond, 7, 13, 18, 20, 19, 17, 14, 10, 5, 0);
    due(beyond.would(0, 0, 1), 1, "bells beyond the high");
    BellHammer atOnce = one(20, 4, 0, 20);
    pathIs(atOnce, 20, 19, 17, 14, 10, 5, 0);
    due(atOnce.would(0, 0, 1), 1, "bells of a flight that is at the high at once");
    BellHammer almost = one(21, 4, 0, 20);
    startsWith(almost, 20, 21, 20);
    due(almost.would(0, 0, 1), 1, "bells behind two ticks");
  }

  private static void fallsBehindRing() {
    sentence(16, "and its speed is -(speed * spring / 20)");
    // With 7 it comes to the high of 20 behind 4 ticks, with a speed of 4.
    int[][] springsAndPlaces = {
      {0, 19}, {4, 19}, {5, 18}, {9, 18}, {10, 17}, {14, 17}, {15, 16}, {19, 16}, {20, 15}
    };
    for (int[] each : springsAndPlaces) {
      startsWith(one(20, 4, each[0], 7), 7, 13, 18, 20, each[1]);
    }
    pathIs(one(21, 4, 19, 6, "rust on a from 0 to 0 by 9;"),
        6, 11, 15, 18, 20, 21, 20, 18, 15, 11, 6, 0, 0);
    startsWith(one(21, 4, 20, 6), 6, 11, 15, 18, 20, 21, 19);
  }

  private static void endsAtSpeed1() {
    sentence(16, "If it is at 0 or below it, it is there, and its speed is -speed * spring / 30;"
        + " with a speed of 1 or 0 then the flight ends behind this tick.");
    // It comes to 0 with a speed of -5: 5 * 5 is less than 30, 5 * 12 is the first that is 2 * 30.
    for (int spring : new int[] {0, 1, 5, 6, 11}) {
      pathIs(one(20, 4, spring, 5), FREE);
    }
    for (int spring : new int[] {12, 17}) {
      pathIs(one(20, 4, spring, 5), 5, 9, 12, 14, 15, 15, 14, 12, 9, 5, 0, 1, 1, 0);
    }
    for (int spring : new int[] {18, 20}) {
      pathIs(one(20, 4, spring, 5), 5, 9, 12, 14, 15, 15, 14, 12, 9, 5, 0, 2, 3, 3, 2, 0);
    }
    // It comes to 2 below 0 with a speed of -7, and 7 * 10 is 2 * 30 and more.
    pathIs(one(20, 4, 10, 8), 8, 15, 20, 16, 11, 5, 0, 1, 1, 0);
    pathIs(one(20, 4, 8, 8), 8, 15, 20, 17, 13, 8, 2, 0);
  }

  private static void bouncesOn() {
    sentence(16, "Then (also behind a ring or a bounce) its speed changes");
    // A bounce with 3 goes on with 2, and a ring with 4 * 10 / 20 goes on with -3.
    startsWith(one(20, 4, 20, 5), 5, 9, 12, 14, 15, 15, 14, 12, 9, 5, 0, 2);
    startsWith(one(20, 4, 10, 7), 7, 13, 18, 20, 17, 13, 8, 2, 0);
    // The rust at 0 counts behind a bounce: 3 less 1 and the rust.
    pathIs(one(20, 4, 20, 5, RUST_AT + "0 to 0 by 1;"),
        5, 9, 12, 14, 15, 15, 14, 12, 9, 5, 0, 1, 1, 0);
    pathIs(one(20, 4, 20, 5, RUST_AT + "0 to 0 by 2;"),
        5, 9, 12, 14, 15, 15, 14, 12, 9, 5, 0, 0);
    pathIs(one(20, 4, 20, 5, RUST_AT + "0 to 0 by 3;"),
        5, 9, 12, 14, 15, 15, 14, 12, 9, 5, 0, 0);
    // The rust at the high counts not behind a ring, as the speed is not more than 0 there.
    pathIs(one(20, 4, 10, 8, RUST_AT + "20 to 20 by 9;"), 8, 15, 20, 16, 11, 5, 0, 1, 1, 0);
  }

  private static void losesSpeedUpwards() {
    sentence(16, "if it is more than 0, it is less by 1 and the rust there, at least 0; otherwise it"
        + " is less by 1");
    pathIs(one(20, 4, 0, 5, RUST_AT + "5 to 5 by 2;"), 5, 7, 8, 8, 7, 5, 2, 0);
    pathIs(one(20, 4, 0, 5, RUST_AT + "5 to 5 by 3;"), 5, 6, 6, 5, 3, 0);
    pathIs(one(20, 4, 0, 5, RUST_AT + "5 to 5 by 4;"), 5, 5, 4, 2, 0);
    pathIs(one(20, 4, 0, 5, RUST_AT + "5 to 5 by 5;"), 5, 5, 4, 2, 0);
    pathIs(one(20, 4, 0, 5, (RUST_AT + "5 to 5 by 9;").repeat(12)), 5, 5, 4, 2, 0);
    // With a speed of 1 at 15, the rust there takes no more than this 1.
    pathIs(one(20, 4, 0, 5, RUST_AT + "15 to 15 by 9;"), FREE);
    // Places that are come to downwards only.
    pathIs(one(20, 4, 0, 7, RUST_AT + "19 to 20 by 9;" + RUST_AT + "14 to 17 by 9;"
        + RUST_AT + "8 to 12 by 9;" + RUST_AT + "1 to 6 by 9;"),
        7, 13, 18, 20, 19, 17, 14, 10, 5, 0);
  }

  private static void fallsWith20AtMost() {
    sentence(16, "otherwise it is less by 1, at least -20.");
    // The rings are with a speed of 18, 19, 20, 21 and 80.
    startsWith(one(37, 4, 20, 19), 19, 37, 18, 0);
    startsWith(one(39, 4, 20, 20), 20, 39, 19, 0);
    startsWith(one(41, 4, 20, 21), 21, 41, 21, 1, 0);
    startsWith(one(43, 4, 20, 22), 22, 43, 23, 3, 0);
    startsWith(one(80, 4, 20, 80), 80, 60, 40, 20, 0, 12, 23);
    startsWith(one(99, 1, 20, 80), 99, 79, 59, 39, 19, 0, 12);
    // -20 * 20 / 30 is 13, and -20 * 9 / 30 is 6.
    startsWith(one(80, 4, 9, 60), 60, 80, 60, 40, 20, 0, 5, 9);
  }

  private static void addsRustOfPlace() {
    sentence(16, "The rust at a place: the numbers behind by of all rusts on the rail from whose"
        + " from to whose to it is, added.");
    int[] slower = {5, 9, 11, 12, 12, 11, 9, 6, 2, 0};
    int[] slow = {5, 9, 10, 10, 9, 7, 4, 0};
    pathIs(one(20, 4, 0, 5), FREE);
    pathIs(one(20, 4, 0, 5, RUST_AT + "9 to 9 by 0;"), FREE);
    pathIs(one(20, 4, 0, 5, RUST_AT + "6 to 8 by 9;"), FREE);
    pathIs(one(20, 4, 0, 5, RUST_AT + "10 to 11 by 9;"), FREE);
    pathIs(one(20, 4, 0, 5, RUST_AT + "9 to 9 by 1;"), slower);
    pathIs(one(20, 4, 0, 5, RUST_AT + "6 to 9 by 1;"), slower);
    pathIs(one(20, 4, 0, 5, RUST_AT + "9 to 10 by 1;"), slower);
    pathIs(one(20, 4, 0, 5, RUST_AT + "9 to 9 by 2;"), slow);
    pathIs(one(20, 4, 0, 5, (RUST_AT + "9 to 9 by 1;").repeat(2)), slow);
    pathIs(one(20, 4, 0, 5, RUST_AT + "6 to 9 by 1;" + RUST_AT + "9 to 9 by 1;"), slow);
    pathIs(one(20, 4, 0, 5, RUST_AT + "8 to 9 by 1;" + RUST_AT + "7 to 8 by 9;"
        + RUST_AT + "10 to 11 by 9;"), 5, 9, 11, 11, 10, 8, 5, 1, 0);
    BellHammer other = taught("rail a high 20 puck 4 spring 0; rail b high 20 puck 4 spring 0;"
        + "rust on b from 0 to 99 by 9;" + FIST);
    pathIs(other, FREE);
    due(other.would(0, 1, 2), 5, "ticks at the rail with the rust: 5, 5, 4, 2, 0");
    BellHammer full = one(20, 4, 0, 10, RUST_AT + "10 to 10 by 0;"
        + (RUST_AT + "10 to 10 by 1;").repeat(11));
    pathIs(full, 10, 10, 9, 7, 4, 0);
  }

  private static void rustsAtBothEnds() {
    sentence(16, "from and to of a rust 0 to 99");
    // The puck does not start more slowly, as its speed changes behind a tick only.
    pathIs(one(20, 4, 0, 5, (RUST_AT + "0 to 0 by 9;").repeat(12)), FREE);
    pathIs(one(20, 4, 20, 5, RUST_AT + "1 to 1 by 9;"),
        5, 9, 12, 14, 15, 15, 14, 12, 9, 5, 0, 2, 3, 3, 2, 0);
    // With a speed of 98 it is at 98, and goes on to 99 if the rust there is 96 at most.
    String tenth = RUST_AT + "98 to 98 by 9;";
    due(one(99, 2, 0, 49, tenth.repeat(10) + RUST_AT + "98 to 99 by 6;").would(0, 0, 1), 1,
        "bells with a rust of 96 at 98");
    due(one(99, 2, 0, 49, tenth.repeat(10) + RUST_AT + "98 to 99 by 7;").would(0, 0, 1), 0,
        "bells with a rust of 97 at 98");
    startsWith(one(99, 2, 0, 49, tenth.repeat(12)), 98, 98, 97);
    due(one(99, 2, 0, 49, (RUST_AT + "99 to 99 by 9;").repeat(12)).would(0, 0, 1), 1,
        "bells with a rust of 108 at 99");
    due(one(99, 2, 0, 49, (RUST_AT + "0 to 97 by 9;").repeat(12)).would(0, 0, 1), 1,
        "bells with a rust of 108 at 0 to 97");
    due(one(99, 2, 0, 49, (RUST_AT + "0 to 99 by 9;").repeat(12)).would(0, 0, 1), 0,
        "bells with a rust of 108 everywhere");
  }

  private static void tellsHighestPlaceAndBells() {
    sentence(15, "The height of a strike is the highest place of its flight, its bells how often the"
        + " bell rang in it.");
    BellHammer x = one(20, 1, 20, 80);
    pathIs(x, 20, 0, 12, 20, 8, 0, 7, 13, 18, 20, 15, 9, 2, 0, 4, 7, 9, 10, 10, 9, 7, 4, 0, 1, 1,
        0);
    due(x.would(0, 0, 1), 3, "bells");
    due(x.strike(0, 0), 20, "height");
    due(x.count(6), 3, "bells in all");
    due(x.fist(0, 7), 3, "bells of the fist");
    x.wind(0, 19);
    due(x.would(0, 0, 1), 2, "bells with a spring of 19");
    x.wind(0, 11);
    due(x.would(0, 0, 1), 2, "bells with a spring of 11");
    x.wind(0, 10);
    due(x.would(0, 0, 1), 1, "bells with a spring of 10");
    BellHammer y = one(20, 4, 18, 5);
    due(y.strike(0, 0), 15, "the height of a flight that bounces to 3");
    due(y.board(0), 15, "the height on the board");
    due(y.rail(0, 3), 15, "the greatest height at the rail");
    due(y.fist(0, 6), 15, "the greatest height of the fist");
  }

  // ---- strikes

  private static void strikesInOrder() {
    sentence(12, "A strike: the puck flies; the fist is sorer by the puck then (at most 60); then"
        + " prizes are looked at, by numbers");
    BellHammer x = taught(RAIL + FIST + "prize p worth 100 of 9 when sore f = 0;"
        + "prize q worth sore f * 10 + best a of 1 when sore f = 4 and height = 15 and best a = 15;"
        + "prize r worth sore f of 9 when sore f = 8 and height = 1 and best a = 15;");
    x.strike(0, 0);
    due(x.fist(0, 4), 55, "the purse: sore by 4 already, and best is 15");
    x.strike(0, 0);
    due(x.fist(0, 4), 63, "the purse: sore by 8 already, and best stays 15");
    due(x.prize(0, 1), 0, "sore by 0 no more");
    BellHammer y = taught("rail a high 20 puck 9 spring 0; fist f arm 5 aim 0 elbows 0;"
        + "prize p worth 1 of 9 when sore f > 60; prize q worth sore f of 9 when sore f >= 60;");
    for (int i = 0; i < 6; i++) {
      y.strike(0, 0);
    }
    due(y.fist(0, 4), 0, "the purse at 54");
    y.strike(0, 0);
    due(y.fist(0, 4), 60, "the purse at 60");
    y.strike(0, 0);
    due(y.fist(0, 4), 120, "the purse at 60 again");
    BellHammer z = taught("rail a high 20 puck 4 spring 0; fist f arm 8 aim 0 elbows 0;"
        + "prize p worth 1 of 9 when not rings and bells = 0;"
        + "prize q worth 10 of 9 when rings and bells = 1;");
    z.strike(0, 0);
    due(z.fist(0, 4), 10, "rings and bells are those of this strike");
    z.strike(0, 0);
    due(z.fist(0, 4), 11, "rings and bells are those of this strike");
  }

  private static void givesTheFirstPrize() {
    sentence(12, "the first one that is still there, and whose test holds, is given: there is one"
        + " less, and the purse of the fist is more by its worth, as it is with one less of it. No"
        + " other one is given for this strike.");
    BellHammer x = taught(RAIL + FIST + "fist g arm 1 aim 0 elbows 0;"
        + "prize p worth 1 of 0 when height >= 0; prize q worth 10 of 9 when height < 0;"
        + "prize r worth 100 of 2 when height >= 0; prize s worth 1000 of 1 when height >= 0;"
        + "prize t worth 10000 of 1 when height >= 0;");
    int[][] leftAndPurse = {
      {0, 9, 1, 1, 1, 100}, {0, 9, 0, 1, 1, 200}, {0, 9, 0, 0, 1, 1200}, {0, 9, 0, 0, 0, 11200},
      {0, 9, 0, 0, 0, 11200}
    };
    for (int[] each : leftAndPurse) {
      x.strike(0, 0);
      for (int prize = 0; prize < 5; prize++) {
        due(x.prize(prize, 0), each[prize], "left of prize " + prize);
      }
      due(x.fist(0, 4), each[5], "purse");
      due(x.fist(1, 4), 0, "the purse of another fist");
    }
    due(x.prize(2, 1), 2, "given");
    due(x.prize(4, 1), 1, "given");
    BellHammer y = taught(RAIL + FIST + "prize p worth 1 of 2 when height >= 0;"
        + "prize q worth left p + 7 of 1 when height >= 0;");
    y.strike(0, 0);
    y.strike(0, 0);
    due(y.prize(1, 2), 7, "a worth with none left of another prize");
    y.strike(0, 0);
    due(y.fist(0, 4), 9, "the purse");
  }

  private static void addsWorthToThePurse() {
    sentence(12, "the purse of the fist is more by its worth");
    BellHammer x = taught(RAIL + FIST + "prize p worth purse f + 1 of 9 when height >= 0;");
    for (int purse : new int[] {1, 3, 7, 15}) {
      x.strike(0, 0);
      due(x.fist(0, 4), purse, "a purse that is doubled, and 1 more");
    }
    BellHammer y = taught(RAIL + FIST + "prize p worth 0 - 5 of 1 when height >= 0;"
        + "prize q worth 0 of 1 when height >= 0;");
    y.strike(0, 0);
    due(y.fist(0, 4), -5, "a worth below 0");
    y.strike(0, 0);
    due(y.fist(0, 4), -5, "a worth of 0");
    due(y.prize(1, 1), 1, "a prize of the worth 0 is given");
    due(y.pass(1), 0, "no more prizes");
  }

  // ---- rounds

  /** A fist for each number of elbows, and a turn for each of them, in this order. */
  private static BellHammer row(int... elbows) {
    StringBuilder bill = new StringBuilder(RAIL);
    for (int i = 0; i < elbows.length; i++) {
      bill.append("fist f" + i + " arm " + (1 + i) + " aim 0 elbows " + elbows[i] + ";");
    }
    for (int i = 0; i < elbows.length; i++) {
      bill.append("turn f" + i + " at a;");
    }
    return taught(bill.toString());
  }

  private static void rowIs(BellHammer x, int... turns) {
    for (int place = 0; place < turns.length; place++) {
      due(x.turn(turns[place], 2), place, "the place of turn " + turns[place]);
    }
  }

  private static void pushesWithElbows() {
    sentence(14, "if the fist of the turn that is there now has more elbows than that of the turn"
        + " ahead of it, and 2, added, both change their places, and it has 1 elbow less.");
    int[][] stay = {{0, 2}, {0, 0}, {1, 3}, {6, 8}, {7, 9}, {9, 0}, {9, 9}, {3, 0}};
    for (int[] elbows : stay) {
      BellHammer x = row(elbows);
      x.pass(1);
      rowIs(x, 0, 1);
      due(x.fist(0, 2), elbows[0], "elbows of the first one, nobody pushed");
      due(x.fist(1, 2), elbows[1], "elbows of the second one, nobody pushed");
    }
    int[][] push = {{0, 3}, {0, 9}, {1, 4}, {5, 8}, {6, 9}};
    for (int[] elbows : push) {
      BellHammer x = row(elbows);
      x.pass(1);
      rowIs(x, 1, 0);
      due(x.fist(0, 2), elbows[0], "elbows of the one that was pushed");
      due(x.fist(1, 2), elbows[1] - 1, "elbows of the one that pushed");
      due(x.board(0), x.fist(0, 6), "the first one strikes last now");
      x.pass(1);
      rowIs(x, 1, 0);
      due(x.fist(1, 2), elbows[1] - 1, "elbows of one that is ahead");
    }
  }

  private static void pushesFromSecondToLast() {
    sentence(14, "From the second place to the last one");
    BellHammer alone = row(9);
    alone.pass(30);
    rowIs(alone, 0);
    due(alone.fist(0, 2), 9, "elbows of one that is alone");
    BellHammer back = row(0, 0, 9);
    back.pass(1);
    rowIs(back, 0, 2, 1);
    due(back.fist(2, 2), 8, "elbows behind one place");
    back.pass(1);
    rowIs(back, 2, 0, 1);
    due(back.fist(2, 2), 7, "elbows behind two places");
    back.pass(1);
    rowIs(back, 2, 0, 1);
    BellHammer chain = row(0, 3, 3);
    chain.pass(1);
    rowIs(chain, 1, 2, 0);
    due(chain.fist(1, 2) + chain.fist(2, 2), 4, "both pushed the same one");
    BellHammer stopped = row(2, 4, 7);
    stopped.pass(1);
    rowIs(stopped, 0, 2, 1);
    String two = RAIL + FIST + "fist g arm 5 aim 0 elbows ";
    BellHammer twice = taught(two + "4; turn f at a; turn g at a; turn f at a; turn g at a;");
    twice.pass(1);
    rowIs(twice, 1, 0, 3, 2);
    due(twice.fist(1, 2), 2, "elbows behind two pushes of one fist");
    BellHammer once = taught(two + "3; turn f at a; turn g at a; turn f at a; turn g at a;");
    once.pass(1);
    rowIs(once, 1, 0, 2, 3);
    BellHammer same = taught(two + "9; turn g at a; turn g at a;");
    same.pass(1);
    rowIs(same, 0, 1);
    BellHammer full = taught(two + "5;" + "turn f at a;".repeat(19) + "turn g at a;");
    full.pass(1);
    due(full.turn(19, 2), 18, "the turn at the last place of a full row pushes");
    due(full.turn(18, 2), 19, "the turn that was pushed to the last place of a full row");
    full.pass(2);
    due(full.turn(19, 2), 16, "three pushes");
    due(full.fist(1, 2), 2, "elbows behind three pushes");
    full.pass(30);
    due(full.turn(19, 2), 16, "2 is not more than 0 and 2");
  }

  private static void takesTurnsIfTestHolds() {
    sentence(14, "Turn by turn, in the row: if its test holds now (or it has none), its fist strikes"
        + " at its rail.");
    BellHammer none = taught(RAIL + FIST);
    due(none.pass(30), 0, "prizes without turns");
    due(none.count(5), 0, "strikes without turns");
    BellHammer x = taught(RAIL + "rail b high 99 puck 4 spring 0;" + FIST
        + "fist g arm 8 aim 0 elbows 0; turn f at a when rings; turn g at b;"
        + "turn g at a when round = 1; turn f at b when height = 36; turn f at b when height = 36;");
    x.pass(1);
    due(x.count(5), 2, "g at b, and f at b, as 36 is the height of the latest strike then only");
    due(x.rail(0, 4), 0, "strikes at a");
    due(x.rail(1, 4), 2, "strikes at b");
    due(x.board(1), 36, "the height of g");
    due(x.board(0), 15, "the height of f");
    x.pass(1);
    due(x.count(5), 4, "g at b and at a");
    due(x.rail(0, 4), 1, "g at a in the round 1");
    BellHammer full = taught(RAIL + FIST + "turn f at a;".repeat(20));
    full.pass(1);
    due(full.count(5), 20, "strikes of a full row");
    full.pass(30);
    due(full.count(5), 620, "strikes of a full row in 31 rounds");
  }

  private static void rests() {
    sentence(14, "Each fist that did not strike since the round ahead of this one ended (out of turn"
        + " counts, too) is less sore by 3 (at least 0).");
    for (int puck = 1; puck <= 9; puck++) {
      BellHammer x = one(20, puck, 0, 60);
      x.pass(1);
      due(x.fist(0, 3), 0, "not sore, and rested");
      x.strike(0, 0);
      x.pass(1);
      due(x.fist(0, 3), puck, "no rest in the round of a strike out of turn");
      for (int i = 1; i <= 4; i++) {
        x.pass(1);
        due(x.fist(0, 3), Math.max(0, puck - 3 * i), "rest from " + puck);
      }
    }
    BellHammer x = taught(RAIL + FIST + "fist g arm 9 aim 0 elbows 0; turn g at a when round < 2;");
    x.strike(0, 0);
    x.strike(1, 0);
    x.pass(2);
    due(x.fist(0, 3), 1, "f rests in the second round");
    due(x.fist(1, 3), 12, "g strikes in each round");
    x.strike(0, 0);
    x.pass(1);
    due(x.fist(0, 3), 5, "a strike behind a round counts for the next one");
    due(x.fist(1, 3), 9, "g rests, as its test does not hold");
    BellHammer weak = taught("rail a high 20 puck 9 spring 0; fist f arm 1 aim 0 elbows 0;"
        + "turn f at a when round < 3;");
    weak.pass(3);
    due(weak.fist(0, 3), 27, "strikes without force are strikes");
    weak.pass(1);
    due(weak.fist(0, 3), 24, "rest");
    teach(x, RAIL + FIST);
    x.strike(0, 0);
    due(teach(x, RAIL + FIST + "turn f at a when round = 3;"), 0, "teach behind a strike");
    x.pass(1);
    x.pass(1);
    due(x.fist(0, 3), 1, "a turn in the round 3, and rest in the round 4");
  }

  private static void countsRounds() {
    sentence(14, "4. The round is 1 greater.");
    BellHammer x = taught(RAIL + FIST + "prize p worth round of 99 when height >= 0; turn f at a;");
    due(x.count(0), 0, "the first round");
    x.strike(0, 0);
    due(x.count(0), 0, "the round behind a strike");
    due(x.count(7), 0, "a worth in the round 0");
    x.pass(1);
    due(x.count(0), 1, "the round behind pass(1)");
    due(x.count(7), 0, "the turns of the first round are in the round 0");
    x.pass(30);
    due(x.count(0), 31, "the round behind pass(30)");
    due(x.count(7), 465, "1 and 2 and so on up to 30");
    BellHammer empty = new BellHammer();
    empty.pass(30);
    due(empty.count(0), 30, "rounds without a bill");
    due(teach(empty, "rail"), 1, "teach with an error");
    due(empty.count(0), 30, "the round behind an error");
    due(teach(empty, worth("round")), 0, "teach");
    due(empty.prize(0, 2), 30, "the round stays behind a bill");
  }

  // ---- what sums and tests read

  private static void readsNothingAtFirst() {
    sentence(9, "In tests and sums height and bells are those of the latest strike of all (0, at"
        + " first), round is the round, purse and sore are those of a fist, best is the greatest"
        + " height at a rail so far (0, at first)");
    for (String word : "height bells round".split(" ")) {
      worthIs(word, 0);
    }
    BellHammer x = taught(RAIL + FIST + "prize p worth 1 of 7 when rings;"
        + "prize q worth best a + purse f + sore f of 1 when rings; prize r worth left p of 1"
        + " when not rings;");
    due(x.prize(1, 2), 0, "best, purse and sore at first");
    due(x.prize(2, 2), 7, "left at first");
    due(x.prize(0, 3), 0, "rings at first");
    due(x.prize(2, 3), 1, "not rings at first");
    x.strike(0, 0);
    due(teach(x, RAIL + FIST + "prize q worth best a + purse f + sore f + height + bells of 1"
        + " when rings;"), 0, "teach behind a strike");
    due(x.prize(0, 2), 0, "all is 0 again behind a new bill");
    BellHammer y = new BellHammer();
    for (int i = 0; i < 5; i++) {
      due(teach(y, "rail a high 20 puck 4 spring 0; fist f arm 8 aim 0 elbows 0;"
          + worth("height * 10 + bells") + "turn f at a;"), 0, "teach behind a strike that rang");
      due(y.prize(0, 2), 0, "height and bells behind a new bill");
      due(y.prize(0, 3), 0, "rings behind a new bill");
      due(y.foresee(1, 2), 1, "bells that are foreseen");
      y.strike(0, 0);
      due(y.prize(0, 2), 201, "height and bells behind a strike");
      due(y.prize(0, 3), 1, "rings behind a strike");
      due(i % 2 == 0 ? y.foresee(2, 3) : 2, 2, "strikes that are foreseen");
    }
  }

  private static void readsTheLatestStrike() {
    sentence(9, "best is the greatest height at a rail so far (0, at first), left how often a prize"
        + " is still there; rings holds, if the bell rang in the latest strike.");
    BellHammer x = taught(RAIL + "rail b high 20 puck 1 spring 20;" + FIST
        + "fist g arm 60 aim 20 elbows 0; prize p worth height of 2 when rings;"
        + "prize q worth bells of 0 when rings; prize r worth best a * 100 + best b of 0"
        + " when left p = 1; prize s worth purse g * 100 + sore f of 0 when not rings;");
    int[][] strikes = {{0, 0}, {1, 1}, {0, 0}};
    int[][] worths = {{15, 0, 1500, 4}, {20, 3, 1520, 2004}, {1, 0, 1520, 2008}};
    int[][] tests = {{0, 0, 0, 1}, {1, 1, 1, 0}, {0, 0, 1, 1}};
    BellHammer left = taught(RAIL + FIST + "prize p worth 1 of 3 when rings;"
        + "prize q worth 1 of 5 when height >= 0; prize r worth left p * 10 + left q of 0"
        + " when left q = 4;");
    due(left.prize(2, 2), 35, "left of both prizes");
    due(left.prize(2, 3), 0, "a test of the second prize");
    left.strike(0, 0);
    due(left.prize(2, 2), 34, "left of both prizes behind a strike");
    due(left.prize(2, 3), 1, "a test of the second prize behind a strike");
    for (int i = 0; i < strikes.length; i++) {
      x.strike(strikes[i][0], strikes[i][1]);
      for (int prize = 0; prize < 4; prize++) {
        due(x.prize(prize, 2), worths[i][prize], "worth " + prize + " behind strike " + i);
        due(x.prize(prize, 3), tests[i][prize], "test " + prize + " behind strike " + i);
      }
    }
  }

  private static void bindsTests() {
    sentence(9, "Both sides of and and or are reckoned; and binds more than or, not more than and.");
    String[] sides = {"1=2", "1=1"};
    for (int i = 0; i < 8; i++) {
      boolean a = i % 2 == 1;
      boolean b = i / 2 % 2 == 1;
      boolean c = i / 4 == 1;
      String x = sides[i % 2];
      String y = sides[i / 2 % 2];
      String z = sides[i / 4];
      testIs(a && b, x + " and " + y);
      testIs(a || b, x + " or " + y);
      testIs(a || b && c, x + " or " + y + " and " + z);
      testIs(a && b || c, x + " and " + y + " or " + z);
      testIs((a || b) && c, "[" + x + " or " + y + "] and " + z);
      testIs(!a && b, "not " + x + " and " + y);
      testIs(!a || b, "not " + x + " or " + y);
      testIs(a && !b || !c, x + " and not " + y + " or not " + z);
      testIs(!(a && b) && c, "not [" + x + " and " + y + "] and " + z);
      testIs(!!a && b, "not not " + x + " and " + y);
    }
    holds("1=1 or 1/0=5");
    holdsNot("1=2 and 1/0=0");
    worthIs("2+3*4-6/2", 11);
    worthIs("10-3-2", 5);
    worthIs("100/7*7", 98);
    worthIs("-2*3+1", -5);
  }

  private static void testIs(boolean due, String test) {
    if (due) {
      holds(test);
    } else {
      holdsNot(test);
    }
  }
}
