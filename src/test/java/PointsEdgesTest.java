/** Each edge that the document names for promises 1 to 6: a new object, points, colour, at, ring, fails. */
public final class PointsEdgesTest {
  private static final Check check = new Check("PointsEdgesTest");

  public static void main(String[] args) {
    newObjectHasOnePoint();
    newObjectHasNoOtherPoint();
    newObjectHasColourZeroAlone();
    newObjectHasWeightsOfOne();
    newObjectHasNoTrace();
    fewestAndMostPoints();
    pointsBesideTheLimits();
    pointsTellHowManyThereWere();
    pointsAnewAreAsAtFirst();
    colourOfFirstAndLastPair();
    colourBesideTheLastPoint();
    leastAndGreatestColour();
    coloursBesideTheLimits();
    colourOfOnePairAlone();
    colourAgain();
    atOfFirstAndLastPair();
    atBesideTheLastPoint();
    ringOfOnePoint();
    leastAndGreatestDigits();
    digitsBesideTheLimits();
    lowestAndHighestDigit();
    differencesWrapAround();
    ringGivesEachPairItsColour();
    ringTellsWhetherItIsEven();
    failsByNothing();
    failsByZeroAtEveryPair();
    failsByTheFirstPair();
    failsByLeastAndGreatestMissingColour();
    noColourAtRankIsMissed();
    failsByReversalAtFirstAndLastPair();
    failsByCountsAtFirstAndLastPair();
    failsByCountsOfTheLastColoursAlone();
    failsByTheFirstReason();
    check.end();
  }

  // Promise 1: "One POINT.", "1 at first".
  private static void newObjectHasOnePoint() {
    check.due("new: count(0)", new ShareTables().count(0), 1);
    check.due("new: points(1)", new ShareTables().points(1), 1);
    check.due("new: at(0, 0)", new ShareTables().at(0, 0), 0);
  }

  // Promise 1: "One POINT.": a second one is no such thing.
  private static void newObjectHasNoOtherPoint() {
    check.still(ShareTables::new, "new: at(0, 1)", x -> x.at(0, 1), -1);
    check.still(ShareTables::new, "new: at(1, 0)", x -> x.at(1, 0), -1);
    check.still(ShareTables::new, "new: colour(0, 1, 0)", x -> x.colour(0, 1, 0), -1);
    check.still(ShareTables::new, "new: colour(1, 1, 0)", x -> x.colour(1, 1, 0), -1);
  }

  // Promise 1: "(0 where a is b, else 1, at first": with one point there is no 1.
  private static void newObjectHasColourZeroAlone() {
    ShareTables x = new ShareTables();
    check.due("new: at(0, 0)", x.at(0, 0), 0);
    check.due("new: count(1)", x.count(1), 1);
    check.due("new: count(2)", x.count(2), 1);
    check.due("new: fails()", x.fails(), 0);
  }

  // Promise 1: "WEIGHTS (0 .. 9; 1 each at first": of each colour, those beyond RANK too.
  private static void newObjectHasWeightsOfOne() {
    for (int i = 0; i < 5; i++) {
      check.due("new: weight(" + i + ", 5)", new ShareTables().weight(i, 5), 1);
    }
  }

  // Promise 1: "(numbers in brackets come to THE TRACE as often as worth() asks that body": none was asked
  // yet.
  private static void newObjectHasNoTrace() {
    check.due("new: trace()", new ShareTables().trace(), 0);
  }

  // Promise 2: "1 POINTS 0 .. n - 1 (n 1 .. 8": the least and the greatest number, and all between.
  private static void fewestAndMostPoints() {
    for (int n = 1; n <= 8; n++) {
      ShareTables x = Colourings.even(3);
      check.due("points(" + n + ")", x.points(n), 3);
      check.due("count(0) behind points(" + n + ")", x.count(0), n);
      check.due("the last pair behind points(" + n + ")", x.at(n - 1, n - 1), 0);
      check.due("none beyond, behind points(" + n + ")", x.at(0, n), -1);
    }
  }

  // Promise 2: "BAD.", "POINTS 0 .. n - 1 (n 1 .. 8": 0 and 9, and all beyond; "Refused, and nothing
  // changes".
  private static void pointsBesideTheLimits() {
    for (int n : new int[] {0, 9, -1, 10}) {
      pointsRefused(n);
    }
    for (int n : Colourings.FAR) {
      pointsRefused(n);
    }
  }

  private static void pointsRefused(int n) {
    String call = "points(" + n + ")";
    check.still(ShareTables::new, "new: " + call, x -> x.points(n), ShareTables.BAD);
    check.still(Colourings::eight, "eight: " + call, x -> x.points(n), ShareTables.BAD);
    check.still(() -> Colourings.uneven(1), "uneven: " + call, x -> x.points(n), ShareTables.BAD);
  }

  // Promise 2: "POINTS anew: how many there were.": from the fewest to the most and back, the same number
  // too.
  private static void pointsTellHowManyThereWere() {
    ShareTables x = new ShareTables();
    int were = 1;
    for (int n : new int[] {1, 8, 8, 1, 2, 7, 3}) {
      check.due("points(" + n + ")", x.points(n), were);
      were = n;
    }
  }

  // Promise 2: "POINTS anew", "else 1, at first, and as POINTS are told anew)": fewer, more, as many; no old
  // colour comes back.
  private static void pointsAnewAreAsAtFirst() {
    for (int n = 1; n <= 8; n++) {
      ShareTables x = allFours(8);
      x.points(3);
      x.points(n);
      check.due("points(3), points(" + n + ")", State.of(x), State.of(Colourings.alike(n)));
      ShareTables again = allFours(n);
      again.points(n);
      check.due("as many: points(" + n + ")", State.of(again), State.of(Colourings.alike(n)));
    }
    for (int a = 0; a < 8; a++) {
      for (int b = 0; b < 8; b++) {
        check.due("eight points: at(" + a + ", " + b + ")", Colourings.alike(8).at(a, b), a == b ? 0 : 1);
      }
    }
  }

  private static ShareTables allFours(int n) {
    ShareTables x = Colourings.alike(n);
    for (int pair = 0; pair < n * n; pair++) {
      x.colour(pair / n, pair % n, 4);
    }
    return x;
  }

  // Promise 3: "A pair's COLOUR becomes c: what it was.", "POINTS 0 .. n - 1": the first pair and the last.
  private static void colourOfFirstAndLastPair() {
    for (int n = 1; n <= 8; n++) {
      ShareTables x = Colourings.alike(n);
      check.due("colour(0, 0, 3) of " + n, x.colour(0, 0, 3), 0);
      check.due("colour(n - 1, n - 1, 2) of " + n, x.colour(n - 1, n - 1, 2), n == 1 ? 3 : 0);
      check.due("at(n - 1, n - 1) of " + n, x.at(n - 1, n - 1), 2);
      if (n > 1) {
        check.due("colour(0, n - 1, 4) of " + n, x.colour(0, n - 1, 4), 1);
        check.due("colour(n - 1, 0, 0) of " + n, x.colour(n - 1, 0, 0), 1);
        check.due("at(0, 0) of " + n, x.at(0, 0), 3);
        check.due("at(0, n - 1) of " + n, x.at(0, n - 1), 4);
        check.due("at(n - 1, 0) of " + n, x.at(n - 1, 0), 0);
      }
    }
  }

  // Promise 3: "BAD.", "BAD (a number is not as told, or there is no such thing)", "POINTS 0 .. n - 1": -1
  // and n, as either point, and all beyond; "Refused, and nothing changes".
  private static void colourBesideTheLastPoint() {
    for (int n = 1; n <= 8; n++) {
      for (int wrong : new int[] {-1, n, n + 1, 8}) {
        colourRefused(n, wrong, 0, 2);
        colourRefused(n, 0, wrong, 2);
        colourRefused(n, wrong, wrong, 2);
      }
    }
    for (int wrong : Colourings.FAR) {
      colourRefused(8, wrong, 0, 2);
      colourRefused(8, 0, wrong, 2);
      colourRefused(8, 7, wrong, 2);
    }
  }

  private static void colourRefused(int n, int a, int b, int c) {
    String call = "colour(" + a + ", " + b + ", " + c + ")";
    check.still(() -> Colourings.alikeMarked(n), call + " of " + n, x -> x.colour(a, b, c), -1);
    if (n == 3) {
      check.still(() -> Colourings.uneven(3), "uneven: " + call, x -> x.colour(a, b, c), -1);
    }
  }

  // Promise 3: "A pair's COLOUR becomes c", "each pair (a, b) has a COLOUR 0 .. 4": the least and the
  // greatest, and all between.
  private static void leastAndGreatestColour() {
    for (int c = 0; c <= 4; c++) {
      ShareTables x = Colourings.alike(8);
      check.due("colour(6, 7, " + c + ")", x.colour(6, 7, c), 1);
      check.due("at(6, 7)", x.at(6, 7), c);
      check.due("colour(6, 7, 1)", x.colour(6, 7, 1), c);
    }
  }

  // Promise 3: "BAD.", "COLOUR 0 .. 4": -1 and 5, and all beyond; "Refused, and nothing changes".
  private static void coloursBesideTheLimits() {
    for (int wrong : new int[] {-1, 5, -2, 6, 8}) {
      colourRefused(3, 0, 0, wrong);
      colourRefused(8, 6, 7, wrong);
    }
    for (int wrong : Colourings.FAR) {
      colourRefused(1, 0, 0, wrong);
      colourRefused(8, 6, 7, wrong);
    }
  }

  // Promise 3: "A pair's COLOUR becomes c": of this pair and of no other, nor of (b, a).
  private static void colourOfOnePairAlone() {
    ShareTables x = Colourings.alike(4);
    x.colour(0, 3, 2);
    check.due("colours", Colourings.rowsOf(x), "0112 1011 1101 1110");
    x.colour(3, 0, 4);
    x.colour(2, 2, 3);
    check.due("colours", Colourings.rowsOf(x), "0112 1011 1131 4110");
  }

  // Promise 3: "A pair's COLOUR becomes c: what it was.": the colour that it has already.
  private static void colourAgain() {
    check.still(Colourings::eight, "eight: colour(0, 4, 4)", x -> x.colour(0, 4, 4), 4);
    check.still(ShareTables::new, "new: colour(0, 0, 0)", x -> x.colour(0, 0, 0), 0);
  }

  // Promise 4: "A pair's COLOUR.", "POINTS 0 .. n - 1": the first pair and the last, even or not.
  private static void atOfFirstAndLastPair() {
    check.due("new: at(0, 0)", new ShareTables().at(0, 0), 0);
    ShareTables x = Colourings.alike(8);
    x.colour(0, 0, 4);
    x.colour(0, 7, 3);
    x.colour(7, 0, 2);
    check.due("at(0, 0)", x.at(0, 0), 4);
    check.due("at(0, 7)", x.at(0, 7), 3);
    check.due("at(7, 0)", x.at(7, 0), 2);
    check.due("at(7, 7)", x.at(7, 7), 0);
    check.due("at(7, 6)", x.at(7, 6), 1);
  }

  // Promise 4: "BAD.", "POINTS 0 .. n - 1": -1 and n, as either point, and all beyond; "Refused, and nothing
  // changes".
  private static void atBesideTheLastPoint() {
    for (int n = 1; n <= 8; n++) {
      for (int wrong : new int[] {-1, n, n + 1, 8}) {
        atRefused(n, wrong, 0);
        atRefused(n, n - 1, wrong);
        atRefused(n, wrong, wrong);
      }
    }
    for (int wrong : Colourings.FAR) {
      atRefused(8, wrong, 0);
      atRefused(8, 7, wrong);
    }
  }

  private static void atRefused(int n, int a, int b) {
    String call = "at(" + a + ", " + b + ")";
    check.still(() -> Colourings.alikeMarked(n), call + " of " + n, x -> x.at(a, b), -1);
    if (n == 3) {
      check.still(() -> Colourings.uneven(3), "uneven: " + call, x -> x.at(a, b), -1);
    }
  }

  // Promise 5: "those of 1 .. n - 1 are digits of a number by 5": of one point there are none at all.
  private static void ringOfOnePoint() {
    check.still(Colourings::marked, "one point: ring(0)", x -> x.ring(0), 1);
    ringRefused(1, 1);
    ringRefused(1, 5);
    ringRefused(1, -1);
  }

  // Promise 5: "digits of a number by 5": of n points from 0 to n - 1 fours.
  private static void leastAndGreatestDigits() {
    int bound = 1;
    for (int n = 2; n <= 8; n++) {
      bound *= 5;
      ShareTables none = Colourings.alike(n);
      check.due("ring(0) of " + n, none.ring(0), 0);
      check.due("its fails()", none.fails(), 101);
      check.due("its at(n - 1, 0)", none.at(n - 1, 0), 0);
      ShareTables fours = Colourings.alike(n);
      check.due("ring(" + (bound - 1) + ") of " + n, fours.ring(bound - 1), 0);
      check.due("its fails()", fours.fails(), 200);
      check.due("its at(0, n - 1)", fours.at(0, n - 1), 4);
      check.due("its at(n - 1, 0)", fours.at(n - 1, 0), 4);
      check.due("its at(0, 0)", fours.at(0, 0), 0);
    }
  }

  // Promise 5: "BAD: below 0, more digits.": -1 and one above n - 1 fours; "Refused, and nothing changes".
  private static void digitsBesideTheLimits() {
    int bound = 1;
    for (int n = 1; n <= 8; n++) {
      for (int digits : new int[] {-1, -5, bound, bound + 1, 5 * bound, 78125}) {
        ringRefused(n, digits);
      }
      for (int digits : Colourings.FAR) {
        ringRefused(n, digits);
      }
      bound *= 5;
    }
    check.still(() -> Colourings.uneven(1), "uneven: ring(25)", x -> x.ring(25), -1);
    check.still(() -> Colourings.uneven(1), "uneven: ring(-1)", x -> x.ring(-1), -1);
  }

  private static void ringRefused(int n, int digits) {
    check.still(() -> Colourings.alikeMarked(n), "ring(" + digits + ") of " + n, x -> x.ring(digits), -1);
  }

  // Promise 5: "the lowest first": the lowest digit is that of 1, the highest that of n - 1.
  private static void lowestAndHighestDigit() {
    ShareTables lowest = Colourings.alike(8);
    lowest.ring(4);
    check.due("ring(4): at(0, 1)", lowest.at(0, 1), 4);
    check.due("ring(4): at(0, 2)", lowest.at(0, 2), 0);
    check.due("ring(4): at(0, 7)", lowest.at(0, 7), 0);
    ShareTables highest = Colourings.alike(8);
    highest.ring(4 * 15625);
    check.due("ring(62500): at(0, 7)", highest.at(0, 7), 4);
    check.due("ring(62500): at(0, 6)", highest.at(0, 6), 0);
    check.due("ring(62500): at(0, 1)", highest.at(0, 1), 0);
  }

  // Promise 5: "Each pair (a, b) gets the COLOUR told for b less a, the rest by n": b below a counts around.
  private static void differencesWrapAround() {
    ShareTables x = Colourings.alike(8);
    x.ring(Colourings.digits(1, 2, 3, 4, 0, 3, 2));
    int[] told = {0, 1, 2, 3, 4, 0, 3, 2};
    for (int a = 0; a < 8; a++) {
      for (int b = 0; b < 8; b++) {
        check.due("at(" + a + ", " + b + ")", x.at(a, b), told[b >= a ? b - a : b - a + 8]);
      }
    }
    ShareTables two = Colourings.alike(2);
    two.ring(3);
    check.due("two points", Colourings.rowsOf(two), "03 30");
  }

  // Promise 5: "Each pair (a, b) gets the COLOUR told": a point's own pair, b less a being 0, is 0 again.
  private static void ringGivesEachPairItsColour() {
    ShareTables x = allFours(8);
    check.due("ring of eight", x.ring(Colourings.digits(1, 2, 3, 4, 3, 2, 1)), 1);
    check.due("its at(7, 7)", x.at(7, 7), 0);
    ShareTables one = Colourings.alike(1);
    one.colour(0, 0, 4);
    check.due("ring(0) of one point", one.ring(0), 1);
    check.due("its at(0, 0)", one.at(0, 0), 0);
  }

  // Promise 5: "whether it is EVEN then": 1, or 0, and then the colours stay as told all the same.
  private static void ringTellsWhetherItIsEven() {
    ShareTables x = Colourings.alike(4);
    check.due("ring of 1, 2, 1", x.ring(Colourings.digits(1, 2, 1)), 1);
    check.due("ring of 1, 1, 2", x.ring(Colourings.digits(1, 1, 2)), 0);
    check.due("its colours", Colourings.rowsOf(x), "0112 2011 1201 1120");
    check.due("ring of 2, 1, 2", x.ring(Colourings.digits(2, 1, 2)), 1);
  }

  // Promise 6: "By what the COLOURING FAILS; 0: EVEN.", "0: it is EVEN": one point, eight alike, five
  // colours.
  private static void failsByNothing() {
    for (int n = 1; n <= 8; n++) {
      check.due(n + " alike: fails()", Colourings.alike(n).fails(), 0);
    }
    for (int rank = 1; rank <= 5; rank++) {
      check.due("rank " + rank + ": fails()", Colourings.even(rank).fails(), 0);
    }
    check.due("eight: fails()", Colourings.eight().fails(), 0);
  }

  // Promise 6: "1 a pair has 0 and its POINTS are two, or not 0 and they are one", "It is told as 100 times
  // that, 10 a and b": from the first pair to the last.
  private static void failsByZeroAtEveryPair() {
    for (int n = 1; n <= 8; n++) {
      for (int pair = 0; pair < n * n; pair++) {
        int a = pair / n;
        int b = pair % n;
        ShareTables x = Colourings.alike(n);
        x.colour(a, b, a == b ? 1 : 0);
        check.due(n + " points, (" + a + ", " + b + ") wrong: fails()", x.fails(), 100 + 10 * a + b);
      }
    }
  }

  // Promise 6: "and of pairs (by a, then b) the first one": (0, 7) is before (1, 0), and (7, 6) before (7,
  // 7).
  private static void failsByTheFirstPair() {
    ShareTables x = Colourings.alike(8);
    x.colour(7, 7, 4);
    check.due("(7, 7): fails()", x.fails(), 177);
    x.colour(7, 6, 0);
    check.due("(7, 6) too: fails()", x.fails(), 176);
    x.colour(1, 0, 0);
    check.due("(1, 0) too: fails()", x.fails(), 110);
    x.colour(0, 7, 0);
    check.due("(0, 7) too: fails()", x.fails(), 107);
    x.colour(0, 0, 1);
    check.due("(0, 0) too: fails()", x.fails(), 100);
  }

  // Promise 6: "2 a COLOUR below RANK that no pair has (its pair is told as 0, 0)": the least, the greatest,
  // all of them.
  private static void failsByLeastAndGreatestMissingColour() {
    check.due("1 missing: fails()", Colourings.rows("0234", "2043", "3402", "4320").fails(), 200);
    check.due("3 missing: fails()", Colourings.rows("0124", "1042", "2401", "4210").fails(), 200);
    check.due("1, 2, 3 missing: fails()", Colourings.rows("04", "40").fails(), 200);
    check.due("none missing: fails()", Colourings.rows("0123", "1032", "2301", "3210").fails(), 0);
  }

  // Promise 6: "2 a COLOUR below RANK that no pair has": those at RANK and beyond are not missed.
  private static void noColourAtRankIsMissed() {
    check.due("colours 0, 1: fails()", Colourings.rows("01", "10").fails(), 0);
    check.due("colours 0, 1, 2: fails()", Colourings.rows("0121", "1012", "2101", "1210").fails(), 0);
    check.due("colours 0 .. 3: fails()", Colourings.even(4).fails(), 0);
  }

  // Promise 6: "3 REVERSAL: (b, a) has not the COLOUR that (d, c) has, (c, d) being the first pair of the
  // COLOUR of (a, b)": (0, 1) is a first pair, so (0, 2) is the first that can fail; the last is (7, 6).
  private static void failsByReversalAtFirstAndLastPair() {
    check.due("first: fails()", Colourings.rows("011", "101", "210").fails(), 302);
    ShareTables x = Colourings.alike(8);
    x.colour(6, 7, 2);
    check.due("last: fails()", x.fails(), 376);
    x.colour(7, 6, 2);
    check.due("none, but the counts: fails()", x.fails() / 100, 4);
    check.due("two points, two directions: fails()", Colourings.rows("01", "20").fails() / 100, 4);
  }

  // Promise 6: "4 COUNTS: for some COLOURS i, j there are not as many POINTS e with (a, e) i and (e, b) j as
  // of the first pair of that COLOUR": (0, 2) is the first that can fail, the last is (n - 1, n - 1).
  private static void failsByCountsAtFirstAndLastPair() {
    check.due("first: fails()", Colourings.rows("011", "102", "130").fails(), 402);
    check.due("last of two: fails()", Colourings.rows("01", "20").fails(), 411);
    check.due("last of four: fails()", Colourings.rows("0112", "1012", "1102", "3330").fails(), 433);
    ShareTables x = Colourings.alike(8);
    for (int a = 0; a < 7; a++) {
      x.colour(a, 7, 2);
      x.colour(7, a, 3);
    }
    check.due("last of eight: fails()", x.fails(), 477);
  }

  // Promise 6: "for some COLOURS i, j there are not as many": be it that only the last ones are not.
  private static void failsByCountsOfTheLastColoursAlone() {
    check.due("2 and 3 alone: fails()",
        Colourings.rows("012233", "102233", "220122", "221022", "332201", "332210").fails(), 420);
    check.due("3 and 4 alone: fails()", Colourings.rows("01223333", "10223333", "22013333", "22103333",
        "44440122", "44441022", "44442201", "44442210").fails(), 444);
  }

  // Promise 6: "A COLOURING FAILS by the first of these": each reason stands before the next, though its pair
  // comes later.
  private static void failsByTheFirstReason() {
    ShareTables x = Colourings.rows("0112", "1011", "1101", "1110");
    check.due("reversal at (3, 0), counts before it: fails()", x.fails(), 330);
    x.colour(1, 2, 4);
    check.due("a 3 missing too: fails()", x.fails(), 200);
    x.colour(3, 3, 1);
    check.due("no 0 at (3, 3) too: fails()", x.fails(), 133);
    ShareTables counts = Colourings.rows("0112", "1011", "1101", "2110");
    check.due("counts alone: fails()", counts.fails() / 100, 4);
    counts.colour(3, 2, 2);
    check.due("reversal at (2, 3) too: fails()", counts.fails(), 323);
  }
}
