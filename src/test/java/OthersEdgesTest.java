/** Each edge that the document names for promises 13 to 16: fuse, quotient, weight, chance. */
public final class OthersEdgesTest {
  private static final Check check = new Check("OthersEdgesTest");
  private static final Refusals refusals = new Refusals(check);

  public static void main(String[] args) {
    leastAndGreatestMap();
    mapsBesideTheLimits();
    zeroDigitsBelowRank();
    digitsFromRankOn();
    fuseOfOnePoint();
    fuseNothingAndAll();
    lowestAndHighestDigit();
    colourZeroStays();
    fuseThatWouldNotBeEven();
    fuseBehindOneThatWasDone();
    fuseOfUnevenOne();
    fuseRefusedAsBadFirst();
    quotientByNothingAndAll();
    quotientByTheHull();
    blocksByTheirLeastPoints();
    kindsByTheirLeastColours();
    quotientOfOnePoint();
    quotientLeavesNoPointBeyond();
    quotientBehindAnother();
    setsBesideTheLimits();
    quotientOfUnevenOne();
    quotientRefusedAsBadFirst();
    weightOfFirstAndLastColour();
    leastAndGreatestWeight();
    weightBesideTheLimits();
    weightOfUnevenOne();
    chanceBehindNoStep();
    chanceBehindMostSteps();
    leastAndGreatestChance();
    chanceByWeightsBelowRankAlone();
    chanceBeyondAnInt();
    chanceInLeastForm();
    chanceBesideTheLimits();
    chanceOfUnevenOne();
    chanceWithoutWeights();
    chanceRefusedAsBadFirst();
    check.end();
  }

  /** The map's number from what the colours 1, 2, .. become. */
  private static int map(int... becomes) {
    return Colourings.digits(becomes);
  }

  // Promise 13: "2 FUSING by a map (for COLOURS 1 .. 4 a digit 1 .. 4 each, of a number by 5": with RANK 5
  // from all 1 (156) to all 4 (624), which leaves no 1.
  private static void leastAndGreatestMap() {
    check.due("rank 5: fuse(156)", Colourings.even(5).fuse(156), 1);
    check.still(() -> Colourings.even(5), "rank 5: fuse(624)", x -> x.fuse(624), 0);
    check.still(() -> Colourings.even(5), "rank 5: fuse(1, 2, 3, 4)", x -> x.fuse(map(1, 2, 3, 4)), 1);
    ShareTables turned = Colourings.even(5);
    check.due("rank 5: fuse(4, 3, 2, 1)", turned.fuse(map(4, 3, 2, 1)), 1);
    check.due("its colours", Colourings.rowsOf(turned), "04321 10432 21043 32104 43210");
  }

  // Promise 13: "BAD: below 0", "625 or more;": -1 and 625, whatever the RANK; "Refused, and nothing
  // changes".
  private static void mapsBesideTheLimits() {
    for (int rank = 1; rank <= 5; rank++) {
      for (int map : new int[] {-1, 625, 626, 625 + 156, 3125, 3125 + 156}) {
        refusals.bad(rank, "fuse(" + map + ")", x -> x.fuse(map));
      }
      for (int map : Colourings.FAR) {
        refusals.bad(rank, "fuse(" + map + ")", x -> x.fuse(map));
      }
    }
  }

  // Promise 13: "a digit 0 of a COLOUR below RANK": one 0 alone, of each COLOUR from 1 to RANK less 1, and
  // all of them 0.
  private static void zeroDigitsBelowRank() {
    for (int rank = 2; rank <= 5; rank++) {
      for (int c = 1; c < rank; c++) {
        int[] becomes = {1, 1, 1, 1};
        becomes[c - 1] = 0;
        int map = map(becomes);
        refusals.bad(rank, "fuse(" + map + "), a 0 for " + c, x -> x.fuse(map));
      }
      refusals.bad(rank, "fuse(0)", x -> x.fuse(0));
    }
  }

  // Promise 13: "digits of COLOURS that are not below RANK are not looked at)": from the COLOUR RANK on they
  // are 0 or 4.
  private static void digitsFromRankOn() {
    for (int rank = 1; rank <= 4; rank++) {
      int[] zeroes = {0, 0, 0, 0};
      int[] fours = {4, 4, 4, 4};
      for (int c = 1; c < rank; c++) {
        zeroes[c - 1] = c;
        fours[c - 1] = c;
      }
      int same = rank;
      check.still(() -> Colourings.even(same), "rank " + rank + ": zeroes beyond", x -> x.fuse(map(zeroes)), 1);
      check.still(() -> Colourings.even(same), "rank " + rank + ": fours beyond", x -> x.fuse(map(fours)), 1);
    }
  }

  // Promise 13: "digits of COLOURS that are not below RANK are not looked at)": of one point none is, from 0
  // to 624.
  private static void fuseOfOnePoint() {
    check.still(Colourings::marked, "one point: fuse(0)", x -> x.fuse(0), 1);
    check.still(Colourings::marked, "one point: fuse(1)", x -> x.fuse(1), 1);
    check.still(Colourings::marked, "one point: fuse(624)", x -> x.fuse(624), 1);
    check.still(Colourings::marked, "one point: fuse(625)", x -> x.fuse(625), -1);
    check.still(Colourings::marked, "one point: fuse(-1)", x -> x.fuse(-1), -1);
  }

  // Promise 13: "each pair gets its COLOUR's digit.", "FUSING: 1;": each COLOUR its own, nothing changes; all
  // of them 1, one is left beside 0.
  private static void fuseNothingAndAll() {
    for (int rank = 2; rank <= 5; rank++) {
      int same = rank;
      check.still(() -> Colourings.even(same), "rank " + rank + ": each its own", x -> x.fuse(map(1, 2, 3, 4)), 1);
      ShareTables x = Colourings.even(rank);
      check.due("rank " + rank + ": fuse(156)", x.fuse(156), 1);
      check.due("its rank", x.count(1), 2);
      check.due("its points", x.count(0), rank);
      check.due("its fails()", x.fails(), 0);
    }
    ShareTables eight = Colourings.eight();
    check.due("eight: fuse(156)", eight.fuse(156), 1);
    check.due("its number(1, 1, 1)", eight.number(1, 1, 1), 6);
  }

  // Promise 13: "that of COLOUR 1 the lowest": and that of COLOUR 4 the highest.
  private static void lowestAndHighestDigit() {
    ShareTables x = Colourings.even(5);
    check.due("rank 5: fuse(3, 1, 4, 2)", x.fuse(3 + 5 + 4 * 25 + 2 * 125), 1);
    check.due("its colours", Colourings.rowsOf(x), "03142 20314 42031 14203 31420");
    ShareTables eight = Colourings.eight();
    check.due("eight: fuse(1, 1, 1, 2)", eight.fuse(1 + 5 + 25 + 2 * 125), 1);
    check.due("its at(0, 4)", eight.at(0, 4), 2);
    check.due("its at(0, 1)", eight.at(0, 1), 1);
  }

  // Promise 13: "COLOUR 0 stays": each point's own pair has it still, and no other has it.
  private static void colourZeroStays() {
    ShareTables x = Colourings.eight();
    x.fuse(156);
    check.due("eight alike", Colourings.rowsOf(x), Colourings.rowsOf(Colourings.alike(8)));
  }

  // Promise 13: "0: it would not be EVEN, and nothing changes.", "It is done if the COLOURING is EVEN then.":
  // by a missing COLOUR, the reversal, the counts.
  private static void fuseThatWouldNotBeEven() {
    check.still(() -> Colourings.even(2), "rank 2: no 1", x -> x.fuse(map(2, 1, 1, 1)), 0);
    check.still(() -> Colourings.even(2), "rank 2: no 1, 2, 3", x -> x.fuse(4), 0);
    check.still(() -> Colourings.even(5), "rank 5: no 2", x -> x.fuse(map(1, 3, 3, 1)), 0);
    check.still(() -> Colourings.even(5), "rank 5: not reversed", x -> x.fuse(map(1, 1, 1, 2)), 0);
    check.still(() -> Colourings.even(4), "rank 4: not reversed", x -> x.fuse(map(1, 1, 2)), 0);
    check.still(Colourings::eight, "eight: not counted", x -> x.fuse(map(1, 2, 2, 1)), 0);
    check.still(Colourings::cube, "cube: not counted", x -> x.fuse(map(1, 2, 2)), 0);
  }

  private static ShareTables fusedEight() {
    ShareTables x = Colourings.eight();
    check.due("eight: fuse(1, 2, 1, 3)", x.fuse(map(1, 2, 1, 3)), 1);
    return x;
  }

  // Promise 13: "0: it would not be EVEN, and nothing changes.": behind one that was done, and one again
  // behind that.
  private static void fuseBehindOneThatWasDone() {
    check.still(OthersEdgesTest::fusedEight, "fused eight: fuse(1, 2, 1)", x -> x.fuse(map(1, 2, 1)), 0);
    ShareTables x = fusedEight();
    x.fuse(map(1, 2, 1));
    check.due("fused eight: fuse(2, 1, 1)", x.fuse(map(2, 1, 1)), 1);
    check.due("its at(0, 1)", x.at(0, 1), 2);
    check.due("its at(0, 2)", x.at(0, 2), 1);
    check.due("its at(0, 4)", x.at(0, 4), 1);
  }

  // Promise 13: "STATE.", "STATE (as told: most often the COLOURING is not EVEN)": by each of the four ways
  // to fail, though it might become EVEN.
  private static void fuseOfUnevenOne() {
    refusals.uneven("fuse(156)", x -> x.fuse(156));
    refusals.uneven("fuse(1, 2)", x -> x.fuse(map(1, 2)));
    refusals.uneven("fuse(1, 1)", x -> x.fuse(map(1, 1)));
    refusals.uneven("fuse(624)", x -> x.fuse(624));
  }

  // Promise 13: "the first of these: BAD", "STATE": where nothing is even either.
  private static void fuseRefusedAsBadFirst() {
    for (int map : new int[] {-1, 625, 0, map(1, 0, 1, 1), map(0, 1, 1, 1)}) {
      refusals.badFirst("fuse(" + map + ")", x -> x.fuse(map));
    }
  }

  // Promise 14: "It becomes its QUOTIENT by the HULL of a set: how many POINTS there are then.": by nothing
  // and by 0 it stays, by everything one POINT is left.
  private static void quotientByNothingAndAll() {
    for (int rank = 1; rank <= 5; rank++) {
      int same = rank;
      check.still(() -> Colourings.even(same), "rank " + rank + ": quotient(0)", x -> x.quotient(0), rank);
      check.still(() -> Colourings.even(same), "rank " + rank + ": quotient(1)", x -> x.quotient(1), rank);
      ShareTables x = Colourings.even(rank);
      check.due("rank " + rank + ": quotient(all)", x.quotient((1 << rank) - 1), 1);
      check.due("behind it", State.of(x), State.of(Colourings.marked()));
    }
    check.still(Colourings::eight, "eight: quotient(0)", x -> x.quotient(0), 8);
    check.still(Colourings::eight, "eight: quotient(1)", x -> x.quotient(1), 8);
    ShareTables x = Colourings.eight();
    check.due("eight: quotient(31)", x.quotient(31), 1);
    check.due("behind it", State.of(x), State.of(Colourings.marked()));
  }

  // Promise 14: "by the HULL of a set": of a set that is not CLOSED, and of one that lacks but 0.
  private static void quotientByTheHull() {
    check.due("eight: quotient(4 alone)", Colourings.eight().quotient(16), 4);
    check.due("eight: quotient(0 and 4)", Colourings.eight().quotient(17), 4);
    check.due("eight: quotient(2 alone)", Colourings.eight().quotient(4), 2);
    check.due("eight: quotient(1 alone)", Colourings.eight().quotient(2), 1);
    check.due("rank 5: quotient(1 alone)", Colourings.even(5).quotient(2), 1);
    check.due("rank 4: quotient(2 alone)", Colourings.even(4).quotient(4), 2);
  }

  // Promise 14: "A QUOTIENT by a CLOSED set: POINTS are in one BLOCK, if their pair's COLOUR is in it; BLOCKS
  // are numbered by their least POINTS": though their other POINTS come in another order.
  private static void blocksByTheirLeastPoints() {
    // The blocks are 0 and 5, 1 and 3, 2 and 4.
    ShareTables six = sixInDisorder();
    check.due("six in disorder: fails()", six.fails(), 0);
    check.due("six in disorder: quotient(3 alone)", six.quotient(8), 3);
    check.due("its colours", Colourings.rowsOf(six), "021 102 210");
  }

  /** A ring of six by 1, 2, 3, 1, 2 (its places 0, 2, 4, 5, 1, 3 told as points 0 .. 5). */
  private static ShareTables sixInDisorder() {
    int[] place = {0, 2, 4, 5, 1, 3};
    int[] told = {0, 1, 2, 3, 1, 2};
    ShareTables x = Colourings.alike(6);
    for (int pair = 0; pair < 36; pair++) {
      int a = pair / 6;
      int b = pair % 6;
      x.colour(a, b, told[(place[b] - place[a] + 6) % 6]);
    }
    return x;
  }

  // Promise 14: "two COLOURS are one, if some pairs with them lie between the same two BLOCKS (and so on); of
  // two BLOCKS the pair's COLOUR is, of these kinds of COLOURS in order of their least ones, the number of
  // its kind.": the kinds are counted without gaps.
  private static void kindsByTheirLeastColours() {
    ShareTables eight = Colourings.eight();
    check.due("eight: quotient(4 alone)", eight.quotient(16), 4);
    check.due("1 and 3 are one", Colourings.rowsOf(eight), "0121 1012 2101 1210");
    ShareTables six = Colourings.ring(2, 3, 1, 2, 3);
    check.due("six: quotient(1 alone)", six.quotient(2), 3);
    check.due("2 becomes 1, 3 becomes 2", Colourings.rowsOf(six), "012 201 120");
    ShareTables pairs = Colourings.ring(2, 1, 2);
    check.due("four: quotient(1 alone)", pairs.quotient(2), 2);
    check.due("2 becomes 1", Colourings.rowsOf(pairs), "01 10");
    check.due("its rank", pairs.count(1), 2);
  }

  // Promise 14: "how many POINTS there are then.": one there was, one there is.
  private static void quotientOfOnePoint() {
    check.still(Colourings::marked, "one point: quotient(0)", x -> x.quotient(0), 1);
    check.still(Colourings::marked, "one point: quotient(1)", x -> x.quotient(1), 1);
    check.still(Colourings::marked, "one point: quotient(2)", x -> x.quotient(2), -1);
  }

  // Promise 14: "how many POINTS there are then.": those beyond are no such thing any more.
  private static void quotientLeavesNoPointBeyond() {
    ShareTables x = Colourings.eight();
    check.due("eight: quotient(4 alone)", x.quotient(16), 4);
    check.due("count(0)", x.count(0), 4);
    check.due("at(3, 3)", x.at(3, 3), 0);
    check.due("at(4, 0)", x.at(4, 0), -1);
    check.due("number(3, 0, 0)", x.number(3, 0, 0), -1);
    check.due("quotient(8)", x.quotient(8), -1);
    check.due("ring(125)", x.ring(125), -1);
    check.due("points(8)", x.points(8), 4);
  }

  // Promise 14: "It becomes its QUOTIENT": and that has its own, down to one POINT.
  private static void quotientBehindAnother() {
    ShareTables x = Colourings.eight();
    check.due("eight: quotient(4 alone)", x.quotient(16), 4);
    check.due("then quotient(2 alone)", x.quotient(4), 2);
    check.due("then quotient(0)", x.quotient(0), 2);
    check.due("its colours", Colourings.rowsOf(x), "01 10");
    check.due("then quotient(1 alone)", x.quotient(2), 1);
    check.due("then quotient(1)", x.quotient(1), 1);
    check.due("behind all", State.of(x), State.of(Colourings.marked()));
  }

  // Promise 14: "BAD", "bits beyond RANK, or below 0": the bit RANK, alone and with all others, and -1;
  // "Refused, and nothing changes".
  private static void setsBesideTheLimits() {
    for (int rank = 1; rank <= 5; rank++) {
      for (int set : new int[] {-1, 1 << rank, (2 << rank) - 1, 64, 1 << 30}) {
        refusals.bad(rank, "quotient(" + set + ")", x -> x.quotient(set));
      }
      for (int set : Colourings.FAR) {
        refusals.bad(rank, "quotient(" + set + ")", x -> x.quotient(set));
      }
    }
  }

  // Promise 14: "STATE.", "STATE (as told: most often the COLOURING is not EVEN)": by each of the four ways
  // to fail.
  private static void quotientOfUnevenOne() {
    for (int set : new int[] {0, 1, 7}) {
      refusals.uneven("quotient(" + set + ")", x -> x.quotient(set));
    }
  }

  // Promise 14: "the first of these: BAD", "STATE": where nothing is even either.
  private static void quotientRefusedAsBadFirst() {
    for (int set : new int[] {8, 15, -1}) {
      refusals.badFirst("quotient(" + set + ")", x -> x.quotient(set));
    }
  }

  // Promise 15: "A WEIGHT becomes v: what it was.", "COLOURS 0 .. 4.": the first and the last, and all
  // between, whatever the RANK.
  private static void weightOfFirstAndLastColour() {
    for (int rank = 1; rank <= 5; rank++) {
      for (int i = 0; i <= 4; i++) {
        ShareTables x = Colourings.even(rank);
        int was = new int[] {2, 3, 5, 7, 9}[i];
        check.due("rank " + rank + ": weight(" + i + ", 8)", x.weight(i, 8), was);
        check.due("rank " + rank + ": weight(" + i + ", 4)", x.weight(i, 4), 8);
        check.due("others: weight", x.weight((i + 1) % 5, 0), new int[] {3, 5, 7, 9, 2}[i]);
      }
    }
  }

  // Promise 15: "WEIGHTS (0 .. 9;": the least and the greatest, and all between; the one that it has already.
  private static void leastAndGreatestWeight() {
    for (int v = 0; v <= 9; v++) {
      ShareTables x = new ShareTables();
      check.due("weight(0, " + v + ")", x.weight(0, v), 1);
      check.due("count(3)", x.count(3), v);
      check.due("weight(0, " + v + ") again", x.weight(0, v), v);
      check.due("weight(0, 1)", x.weight(0, 1), v);
    }
    check.still(Colourings::eight, "eight: weight(4, 9)", x -> x.weight(4, 9), 9);
  }

  // Promise 15: "BAD: COLOURS 0 .. 4.", "WEIGHTS (0 .. 9;": the COLOURS -1 and 5, the WEIGHTS -1 and 10, and
  // all beyond; "Refused, and nothing changes".
  private static void weightBesideTheLimits() {
    for (int rank = 1; rank <= 5; rank++) {
      for (int wrong : new int[] {-1, 5, 6}) {
        refusals.bad(rank, "weight(" + wrong + ", 1)", x -> x.weight(wrong, 1));
      }
      for (int wrong : new int[] {-1, 10, 11}) {
        refusals.bad(rank, "weight(0, " + wrong + ")", x -> x.weight(0, wrong));
        refusals.bad(rank, "weight(4, " + wrong + ")", x -> x.weight(4, wrong));
      }
    }
    for (int wrong : Colourings.FAR) {
      refusals.bad(5, "weight(" + wrong + ", 1)", x -> x.weight(wrong, 1));
      refusals.bad(5, "weight(4, " + wrong + ")", x -> x.weight(4, wrong));
    }
    refusals.badFirst("weight(5, 1)", x -> x.weight(5, 1));
    refusals.badFirst("weight(0, 10)", x -> x.weight(0, 10));
  }

  // Promise 15: "A WEIGHT becomes v: what it was.": it is not asked whether it is EVEN.
  private static void weightOfUnevenOne() {
    for (int kind = 1; kind <= 4; kind++) {
      ShareTables x = Colourings.uneven(kind);
      check.due("uneven by " + kind + ": weight(4, 0)", x.weight(4, 0), 9);
      check.due("uneven by " + kind + ": weight(4, 1)", x.weight(4, 1), 0);
    }
  }

  private static void chance(ShareTables x, int i, int t, long upper, long lower) {
    check.due("chance(" + i + ", " + t + ", 0)", x.chance(i, t, 0), upper);
    check.due("chance(" + i + ", " + t + ", 1)", x.chance(i, t, 1), lower);
  }

  // Promise 16: "A WALK begins at POINT 0", "CHANCE of a COLOUR behind t steps (0 .. 6)": behind none it is
  // there still.
  private static void chanceBehindNoStep() {
    for (int rank = 1; rank <= 5; rank++) {
      ShareTables x = Colourings.even(rank);
      chance(x, 0, 0, 1, 1);
      for (int i = 1; i < rank; i++) {
        chance(x, i, 0, 0, 1);
      }
    }
  }

  // Promise 16: "CHANCE of a COLOUR behind t steps (0 .. 6): that the pair of POINT 0 and where it is has
  // it.": behind one, five and six.
  private static void chanceBehindMostSteps() {
    ShareTables x = Colourings.alike(3);
    x.weight(0, 0);
    chance(x, 0, 1, 0, 1);
    chance(x, 1, 1, 1, 1);
    chance(x, 0, 5, 5, 16);
    chance(x, 0, 6, 11, 32);
    chance(x, 1, 6, 21, 32);
    ShareTables five = Colourings.even(5);
    for (int i = 0; i < 5; i++) {
      five.weight(i, i == 1 ? 1 : 0);
    }
    chance(five, 0, 5, 1, 1);
    chance(five, 1, 6, 1, 1);
    chance(five, 0, 6, 0, 1);
  }

  // Promise 16: "in least form.": no chance is 0 by 1, a sure one 1 by 1.
  private static void leastAndGreatestChance() {
    ShareTables one = new ShareTables();
    chance(one, 0, 6, 1, 1);
    one.weight(0, 9);
    chance(one, 0, 6, 1, 1);
    ShareTables two = Colourings.alike(2);
    two.weight(0, 0);
    two.weight(1, 9);
    chance(two, 0, 6, 1, 1);
    chance(two, 1, 6, 0, 1);
    chance(two, 1, 5, 1, 1);
    chance(two, 0, 5, 0, 1);
  }

  // Promise 16: "by each step a COLOUR is drawn by WEIGHTS (0 .. 9; 1 each at first; of COLOURS below RANK)":
  // those of the COLOURS from RANK on are not drawn.
  private static void chanceByWeightsBelowRankAlone() {
    for (int v : new int[] {0, 9}) {
      ShareTables x = Colourings.alike(4);
      x.weight(2, v);
      x.weight(3, v);
      x.weight(4, v);
      chance(x, 0, 1, 1, 2);
      chance(x, 1, 2, 2, 3);
    }
  }

  // Promise 16: "then any pair from there on with it, all alike.": exactly, by numbers that no int holds.
  private static void chanceBeyondAnInt() {
    ShareTables x = Colourings.alike(8);
    x.weight(0, 9);
    x.weight(1, 8);
    chance(x, 0, 6, 54170095351L, 405680122183L);
    chance(x, 1, 6, 351510026832L, 405680122183L);
    ShareTables five = weighted(9, 8, 9, 9, 9);
    chance(five, 0, 6, 14516753477L, 116101021696L);
    chance(five, 1, 6, 113364279, 453519616);
    chance(five, 2, 6, 3628125487L, 14512627712L);
    chance(five, 4, 6, 14516753475L, 116101021696L);
  }

  private static ShareTables weighted(int... weights) {
    ShareTables x = Colourings.eight();
    for (int i = 0; i < 5; i++) {
      x.weight(i, weights[i]);
    }
    return x;
  }

  // Promise 16: "CHANCE: upper (0), lower part (1), in least form.": with all WEIGHTS 9 as with all 1.
  private static void chanceInLeastForm() {
    for (int v : new int[] {1, 9}) {
      ShareTables x = weighted(v, v, v, v, v);
      chance(x, 0, 6, 3907, 31250);
      chance(x, 1, 6, 3906, 15625);
      chance(x, 4, 6, 3907, 31250);
    }
  }

  // Promise 16: "-1: BAD;", "behind t steps (0 .. 6)", "upper (0), lower part (1)": t -1 and 7, part -1 and
  // 2, the COLOURS -1 and RANK; "Refused, and nothing changes".
  private static void chanceBesideTheLimits() {
    for (int rank = 1; rank <= 5; rank++) {
      for (int part = 0; part <= 1; part++) {
        int asked = part;
        for (int wrong : new int[] {-1, rank, rank + 1, 5}) {
          refusals.bad(rank, "chance(" + wrong + ", 0, " + part + ")", x -> x.chance(wrong, 0, asked));
        }
        refusals.bad(rank, "chance(0, -1, " + part + ")", x -> x.chance(0, -1, asked));
        refusals.bad(rank, "chance(0, 7, " + part + ")", x -> x.chance(0, 7, asked));
      }
      refusals.bad(rank, "chance(0, 6, -1)", x -> x.chance(0, 6, -1));
      refusals.bad(rank, "chance(0, 6, 2)", x -> x.chance(0, 6, 2));
    }
    for (int wrong : Colourings.FAR) {
      refusals.bad(5, "chance(" + wrong + ", 6, 0)", x -> x.chance(wrong, 6, 0));
      refusals.bad(5, "chance(4, " + wrong + ", 0)", x -> x.chance(4, wrong, 0));
      refusals.bad(5, "chance(4, 6, " + wrong + ")", x -> x.chance(4, 6, wrong));
    }
  }

  // Promise 16: "-2: STATE", "STATE (as told: most often the COLOURING is not EVEN)": by each of the four
  // ways to fail.
  private static void chanceOfUnevenOne() {
    refusals.uneven("chance(0, 0, 0)", x -> x.chance(0, 0, 0));
    refusals.uneven("chance(0, 0, 1)", x -> x.chance(0, 0, 1));
    refusals.uneven("chance(2, 6, 0)", x -> x.chance(2, 6, 0));
    refusals.uneven("chance(2, 6, 1)", x -> x.chance(2, 6, 1));
  }

  private static ShareTables weightless(int rank) {
    ShareTables x = Colourings.even(rank);
    for (int i = 0; i < rank; i++) {
      x.weight(i, 0);
    }
    return x;
  }

  // Promise 16: "-2: STATE (also if all WEIGHTS below RANK are 0).": whatever those from RANK on are, and
  // even behind no step; with the last one 1 it is none.
  private static void chanceWithoutWeights() {
    for (int rank = 1; rank <= 5; rank++) {
      int same = rank;
      for (int t : new int[] {0, 1, 6}) {
        check.still(() -> weightless(same), "rank " + rank + ", no weights: chance(0, " + t + ", 0)", x -> x.chance(0, t, 0), -2);
        check.still(() -> weightless(same), "rank " + rank + ", no weights: chance(last, " + t + ", 1)", x -> x.chance(same - 1, t, 1), -2);
      }
      ShareTables x = weightless(rank);
      x.weight(rank - 1, 1);
      chance(x, rank - 1, 1, 1, 1);
      x.weight(rank - 1, 0);
      x.weight(0, 1);
      chance(x, 0, 6, 1, 1);
    }
  }

  // Promise 16: "the first of these: BAD", "STATE": where nothing is even, or no WEIGHT above 0.
  private static void chanceRefusedAsBadFirst() {
    refusals.badFirst("chance(-1, 0, 0)", x -> x.chance(-1, 0, 0));
    refusals.badFirst("chance(3, 0, 1)", x -> x.chance(3, 0, 1));
    refusals.badFirst("chance(0, -1, 0)", x -> x.chance(0, -1, 0));
    refusals.badFirst("chance(0, 7, 1)", x -> x.chance(0, 7, 1));
    refusals.badFirst("chance(0, 6, -1)", x -> x.chance(0, 6, -1));
    refusals.badFirst("chance(0, 6, 2)", x -> x.chance(0, 6, 2));
    check.still(() -> weightless(3), "no weights: chance(3, 6, 0)", x -> x.chance(3, 6, 0), -1);
    check.still(() -> weightless(3), "no weights: chance(0, 7, 0)", x -> x.chance(0, 7, 0), -1);
    check.still(() -> weightless(3), "no weights: chance(0, 6, 2)", x -> x.chance(0, 6, 2), -1);
  }
}
