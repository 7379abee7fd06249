/** Each edge that the document names for promises 17 to 20: sieve, many, count, trace; and its constants. */
public final class SieveEdgesTest {
  private static final Check check = new Check("SieveEdgesTest");

  public static void main(String[] args) {
    fewestAndMostSievedPoints();
    fewestAndMostNeighbours();
    fewestAndMostCommonOnes();
    sieveBesideTheLimits();
    sieveOfTwoPoints();
    sieveOfUnevenOne();
    failsByNothing();
    failsByCountsOfOneTooMany();
    failsByNoSquare();
    failsByNoWholeNumber();
    failsByNoWholeHalf();
    rootsAskedForUnlessZero();
    failsByEitherRootAbove();
    rootsAsGreatAsAllowed();
    failsByTooFewOfOneKind();
    multiplicitiesAsSmallAsAllowed();
    multiplicitiesNotAskedForNoneOrAll();
    failsByTheFirstOfThese();
    fewestAndMostCounted();
    manyBesideTheLimits();
    neighboursNoMoreThanHalf();
    manyOfUnevenOne();
    countOfFirstAndLastKind();
    countBesideTheLimits();
    leastAndGreatestRank();
    rankFallsWithTheGreatestColour();
    evenIsOneOrZero();
    leastAndGreatestWeightsTogether();
    traceOfNothing();
    traceOfEachBody();
    traceOfRefusedWorths();
    traceOfOtherCalls();
    traceOfTheLastCall();
    constants();
    check.end();
  }

  private static void sieve(int n, int k, int l, int m, int want) {
    check.due("sieve(" + n + ", " + k + ", " + l + ", " + m + ")", new ShareTables().sieve(n, k, l, m), want);
  }

  private static void sieveBad(int n, int k, int l, int m) {
    String call = "sieve(" + n + ", " + k + ", " + l + ", " + m + ")";
    check.still(Colourings::eight, call, x -> x.sieve(n, k, l, m), ShareTables.BAD);
    check.still(() -> Colourings.uneven(1), "uneven: " + call, x -> x.sieve(n, k, l, m), ShareTables.BAD);
  }

  // Promise 17: "THE SIEVE.", "3 THE SIEVE for n, k, l, m (2 to 200;": three points are the fewest that have
  // a k, 200 the most.
  private static void fewestAndMostSievedPoints() {
    sieve(3, 1, 0, 0, 2);
    sieve(4, 1, 0, 0, 0);
    sieve(200, 1, 0, 0, 0);
    sieve(199, 1, 0, 0, 2);
    sieveBad(201, 1, 0, 0);
    sieveBad(201, 100, 49, 50);
  }

  // Promise 17: "1 .. n - 2": one neighbour, and all but one of the others.
  private static void fewestAndMostNeighbours() {
    sieve(10, 1, 0, 0, 0);
    sieve(10, 8, 6, 8, 0);
    sieve(200, 198, 196, 198, 0);
    sieveBad(10, 0, 0, 0);
    sieveBad(10, 9, 7, 8);
    sieveBad(200, 199, 197, 198);
    sieveBad(3, 2, 0, 0);
  }

  // Promise 17: "0 .. k - 1; 0 .. k): points, neighbours of each, common ones of neighbours, of others.":
  // none, and as many as there can be, of neighbours and of others.
  private static void fewestAndMostCommonOnes() {
    sieve(10, 3, 0, 1, 0);
    sieve(12, 3, 2, 0, 0);
    sieve(12, 6, 0, 6, 0);
    sieve(12, 6, 5, 6, 1);
    sieveBad(12, 3, 3, 0);
    sieveBad(12, 3, -1, 0);
    sieveBad(12, 6, 0, 7);
    sieveBad(12, 6, 0, -1);
    sieveBad(10, 1, 1, 0);
  }

  // Promise 17: "BAD.", "(2 to 200; 1 .. n - 2; 0 .. k - 1; 0 .. k)": the first one on either side, and all
  // beyond; "Refused, and nothing changes".
  private static void sieveBesideTheLimits() {
    for (int n : new int[] {1, 0, -1, 201, 202}) {
      sieveBad(n, 1, 0, 0);
    }
    for (int n = 3; n <= 200; n += 197) {
      sieveBad(n, 0, 0, 0);
      sieveBad(n, -1, 0, 0);
      sieveBad(n, n - 1, 0, 0);
      sieveBad(n, n, 0, 0);
      for (int k = 1; k <= n - 2; k += Math.max(1, n - 3)) {
        sieveBad(n, k, -1, 0);
        sieveBad(n, k, k, 0);
        sieveBad(n, k, k + 1, 0);
        sieveBad(n, k, 0, -1);
        sieveBad(n, k, 0, k + 1);
        sieveBad(n, k, 0, k + 2);
      }
    }
    for (int far : Colourings.FAR) {
      sieveBad(far, 3, 0, 1);
      sieveBad(10, far, 0, 1);
      sieveBad(10, 3, far, 1);
      sieveBad(10, 3, 0, far);
      sieveBad(far, far, far, far);
    }
  }

  // Promise 17: "(2 to 200; 1 .. n - 2": of two points no k is left.
  private static void sieveOfTwoPoints() {
    for (int k = -1; k <= 3; k++) {
      sieveBad(2, k, 0, 0);
    }
  }

  // Promise 17: "THE SIEVE.": it asks nothing of the COLOURING, and changes nothing.
  private static void sieveOfUnevenOne() {
    for (int kind = 1; kind <= 4; kind++) {
      int way = kind;
      check.still(() -> Colourings.uneven(way), "uneven by " + kind + ": sieve(10, 3, 0, 1)", x -> x.sieve(10, 3, 0, 1), 0);
      check.still(() -> Colourings.uneven(way), "uneven by " + kind + ": sieve(28, 9, 0, 4)", x -> x.sieve(28, 9, 0, 4), 3);
      check.still(() -> Colourings.uneven(way), "uneven by " + kind + ": sieve(10, 9, 0, 4)", x -> x.sieve(10, 9, 0, 4), -1);
    }
  }

  // Promise 17: "It tells the first of these that fails (0: none)".
  private static void failsByNothing() {
    sieve(5, 2, 0, 1, 0);
    sieve(9, 4, 1, 2, 0);
    sieve(16, 6, 2, 2, 0);
    sieve(15, 8, 4, 4, 0);
    sieve(50, 7, 0, 1, 0);
    sieve(197, 98, 48, 49, 0);
  }

  // Promise 17: "1 k (k - l - 1) is not (n - k - 1) m.": one too few of each, one too many, and both sides 0.
  private static void failsByCountsOfOneTooMany() {
    sieve(10, 3, 0, 1, 0);
    sieve(9, 3, 0, 1, 1);
    sieve(11, 3, 0, 1, 1);
    sieve(10, 2, 0, 1, 1);
    sieve(10, 4, 0, 1, 1);
    sieve(10, 3, 1, 1, 1);
    sieve(10, 3, 0, 0, 1);
    sieve(10, 3, 0, 2, 1);
    sieve(6, 1, 0, 0, 0);
    sieve(6, 1, 0, 1, 1);
  }

  // Promise 17: "2 with d = (l - m) (l - m) + 4 (k - m)", "or c is not 0, and d is no square": d is 8, 12,
  // 13, 17.
  private static void failsByNoSquare() {
    sieve(7, 3, 1, 1, 2);
    sieve(11, 5, 2, 2, 2);
    sieve(17, 4, 0, 1, 2);
    sieve(26, 5, 0, 1, 2);
  }

  // Promise 17: "c = 2 k + (n - 1) (l - m)", "or c by its root is no whole number": c is 22 and the root 3,
  // likewise with c below 0.
  private static void failsByNoWholeNumber() {
    sieve(10, 2, 1, 0, 2);
    sieve(15, 7, 2, 4, 2);
    sieve(15, 7, 3, 3, 2);
    sieve(21, 8, 1, 4, 2);
    sieve(22, 7, 0, 3, 2);
  }

  // Promise 17: "that has with n - 1 a whole half.": c by the root is whole, and odd beside an even n - 1, or
  // even beside an odd one.
  private static void failsByNoWholeHalf() {
    sieve(3, 1, 0, 0, 2);
    sieve(5, 1, 0, 0, 2);
    sieve(27, 13, 4, 8, 2);
    sieve(27, 13, 7, 5, 2);
    sieve(39, 14, 1, 7, 2);
    sieve(40, 13, 0, 6, 2);
    sieve(40, 18, 10, 6, 2);
  }

  // Promise 17: "d is 0; or c is 0 and n is even": neither comes about within the limits; with c 0 and n odd
  // nothing more is asked, d being n here, a square (9, 25) or none (5, 13).
  private static void rootsAskedForUnlessZero() {
    for (int n = 5; n <= 197; n += 4) {
      int k = (n - 1) / 2;
      sieve(n, k, (n - 5) / 4, (n - 1) / 4, 0);
    }
    for (int n = 7; n <= 199; n += 4) {
      int k = (n - 1) / 2;
      sieve(n, k, (n - 5) / 4, (n - 1) / 4, 1);
    }
  }

  // Promise 17: "3 with r, s = (l - m +- root) by 2 (c not 0 alone): (r + 1) (k + r + 2 r s) above (k + r) (s
  // + 1) (s + 1), or likewise with r, s changed about.": the first way alone, and the second alone.
  private static void failsByEitherRootAbove() {
    sieve(28, 18, 12, 10, 3);
    sieve(21, 16, 12, 12, 3);
    sieve(100, 81, 66, 63, 3);
    sieve(28, 9, 0, 4, 3);
    sieve(154, 51, 8, 21, 3);
    sieve(56, 22, 3, 12, 3);
  }

  // Promise 17: "above (k + r) (s + 1) (s + 1), or likewise with r, s changed about.": just as great is not
  // above, either way.
  private static void rootsAsGreatAsAllowed() {
    sieve(16, 10, 6, 6, 0);
    sieve(27, 16, 10, 8, 0);
    sieve(162, 105, 72, 60, 0);
    sieve(16, 5, 0, 2, 0);
    sieve(27, 10, 1, 5, 0);
    sieve(100, 22, 0, 6, 0);
  }

  // Promise 17: "4 with f, g = half of n - 1 -+ c by the root (c not 0 alone): n above f (f + 3) by 2 or
  // above g (g + 3) by 2": f alone too small, and g alone.
  private static void failsByTooFewOfOneKind() {
    sieve(50, 28, 18, 12, 4);
    sieve(64, 30, 18, 10, 4);
    sieve(125, 48, 28, 12, 4);
    sieve(50, 21, 4, 12, 4);
    sieve(64, 33, 12, 22, 4);
    sieve(125, 76, 39, 57, 4);
  }

  // Promise 17: "n above f (f + 3) by 2 or above g (g + 3) by 2": 27 is just 6 times 9 by 2, as f and as g,
  // and that is not above.
  private static void multiplicitiesAsSmallAsAllowed() {
    sieve(27, 16, 10, 8, 0);
    sieve(27, 10, 1, 5, 0);
  }

  // Promise 17: "if m is above 0 and below k.": with m 0 and with m k one kind may be ever so few.
  private static void multiplicitiesNotAskedForNoneOrAll() {
    sieve(4, 1, 0, 0, 0);
    sieve(200, 99, 98, 0, 0);
    sieve(4, 2, 0, 2, 0);
    sieve(200, 100, 0, 100, 0);
  }

  // Promise 17: "It tells the first of these that fails": 1 where 2 and more fail too, 2 before 3 and 4, 3
  // before 4.
  private static void failsByTheFirstOfThese() {
    sieve(7, 3, 1, 2, 1);
    sieve(28, 9, 0, 5, 1);
    sieve(50, 21, 4, 13, 1);
    sieve(40, 13, 0, 6, 2);
    sieve(21, 16, 12, 12, 3);
    sieve(56, 22, 3, 12, 3);
  }

  // Promise 18: "How many k, l, m pass it", "for n (2 .. 40).": none of two points, seven of 40.
  private static void fewestAndMostCounted() {
    check.still(ShareTables::new, "many(2)", x -> x.many(2), 0);
    check.still(ShareTables::new, "many(3)", x -> x.many(3), 0);
    check.still(ShareTables::new, "many(4)", x -> x.many(4), 1);
    check.still(ShareTables::new, "many(39)", x -> x.many(39), 2);
    check.still(ShareTables::new, "many(40)", x -> x.many(40), 7);
  }

  // Promise 18: "BAD.", "for n (2 .. 40).": 1 and 41, and all beyond; "Refused, and nothing changes".
  private static void manyBesideTheLimits() {
    for (int n : new int[] {1, 41, 0, -1, 42, 200}) {
      check.still(Colourings::eight, "many(" + n + ")", x -> x.many(n), ShareTables.BAD);
    }
    for (int n : Colourings.FAR) {
      check.still(Colourings::eight, "many(" + n + ")", x -> x.many(n), ShareTables.BAD);
    }
  }

  // Promise 18: "with k no more than half of n - 1": just half is counted (5 points, k 2), more is not (6
  // points, k 3 and 4; 4 points, k 2).
  private static void neighboursNoMoreThanHalf() {
    check.due("many(5)", new ShareTables().many(5), 1);
    check.due("many(6)", new ShareTables().many(6), 2);
    check.due("many(4)", new ShareTables().many(4), 1);
    for (int n = 2; n <= 20; n++) {
      check.due("many(" + n + ")", new ShareTables().many(n), passing(n, (n - 1) / 2));
    }
  }

  /** How many pass, with k up to the bound, each asked by itself. */
  private static int passing(int n, int bound) {
    int passing = 0;
    for (int k = 1; k <= bound; k++) {
      for (int l = 0; l < k; l++) {
        ShareTables x = new ShareTables();
        for (int m = 0; m <= k; m++) {
          passing += x.sieve(n, k, l, m) == 0 ? 1 : 0;
        }
      }
    }
    return passing;
  }

  // Promise 18: "How many k, l, m pass it": it asks nothing of the COLOURING, and changes nothing.
  private static void manyOfUnevenOne() {
    for (int kind = 1; kind <= 4; kind++) {
      int way = kind;
      check.still(() -> Colourings.uneven(way), "uneven by " + kind + ": many(9)", x -> x.many(9), 2);
      check.still(() -> Colourings.uneven(way), "uneven by " + kind + ": many(41)", x -> x.many(41), -1);
    }
  }

  // Promise 19: "0 POINTS, 1 RANK, 2 whether it is EVEN, 3 WEIGHTS of COLOURS below RANK, together.": the
  // first and the last, even or not.
  private static void countOfFirstAndLastKind() {
    check.still(Colourings::eight, "eight: count(0)", x -> x.count(0), 8);
    check.still(Colourings::eight, "eight: count(1)", x -> x.count(1), 5);
    check.still(Colourings::eight, "eight: count(2)", x -> x.count(2), 1);
    check.still(Colourings::eight, "eight: count(3)", x -> x.count(3), 26);
    for (int kind = 1; kind <= 4; kind++) {
      int way = kind;
      check.still(() -> Colourings.uneven(way), "uneven by " + kind + ": count(0)", x -> x.count(0), 3);
      check.still(() -> Colourings.uneven(way), "uneven by " + kind + ": count(1)", x -> x.count(1), 3);
      check.still(() -> Colourings.uneven(way), "uneven by " + kind + ": count(2)", x -> x.count(2), 0);
      check.still(() -> Colourings.uneven(way), "uneven by " + kind + ": count(3)", x -> x.count(3), 10);
    }
  }

  // Promise 19: "BAD.", "0 POINTS, 1 RANK, 2 whether it is EVEN, 3 WEIGHTS": -1 and 4, and all beyond;
  // "Refused, and nothing changes".
  private static void countBesideTheLimits() {
    for (int what : new int[] {-1, 4, -2, 5}) {
      countBad(what);
    }
    for (int what : Colourings.FAR) {
      countBad(what);
    }
  }

  private static void countBad(int what) {
    check.still(ShareTables::new, "new: count(" + what + ")", x -> x.count(what), ShareTables.BAD);
    check.still(Colourings::eight, "eight: count(" + what + ")", x -> x.count(what), ShareTables.BAD);
    check.still(() -> Colourings.uneven(4), "uneven: count(" + what + ")", x -> x.count(what), ShareTables.BAD);
  }

  // Promise 19: "RANK: 1 and the greatest COLOUR that some pair has.": from 1, all pairs having 0, to 5, if
  // but one has 4, be it the first or the last.
  private static void leastAndGreatestRank() {
    check.due("new: count(1)", new ShareTables().count(1), 1);
    ShareTables zeroes = Colourings.alike(8);
    zeroes.ring(0);
    check.due("zeroes: count(1)", zeroes.count(1), 1);
    for (int c = 0; c <= 4; c++) {
      ShareTables first = Colourings.alike(8);
      first.colour(0, 0, c);
      check.due("first " + c + ": count(1)", first.count(1), Math.max(2, c + 1));
      ShareTables last = Colourings.alike(8);
      last.colour(7, 7, c);
      check.due("last " + c + ": count(1)", last.count(1), Math.max(2, c + 1));
      ShareTables one = new ShareTables();
      one.colour(0, 0, c);
      check.due("one point " + c + ": count(1)", one.count(1), c + 1);
    }
  }

  // Promise 19: "the greatest COLOUR that some pair has.": as no pair has it any more, the next one counts.
  private static void rankFallsWithTheGreatestColour() {
    ShareTables x = Colourings.alike(8);
    x.colour(3, 5, 4);
    x.colour(5, 3, 2);
    check.due("count(1)", x.count(1), 5);
    x.colour(3, 5, 1);
    check.due("without 4: count(1)", x.count(1), 3);
    x.colour(5, 3, 0);
    check.due("without 2: count(1)", x.count(1), 2);
    x.points(1);
    check.due("one point: count(1)", x.count(1), 1);
  }

  // Promise 19: "2 whether it is EVEN": 1 or 0, by each of the four ways to fail.
  private static void evenIsOneOrZero() {
    for (int rank = 1; rank <= 5; rank++) {
      check.due("rank " + rank + ": count(2)", Colourings.even(rank).count(2), 1);
    }
    for (int kind = 1; kind <= 4; kind++) {
      check.due("uneven by " + kind + ": count(2)", Colourings.uneven(kind).count(2), 0);
      check.due("uneven by " + kind + ": fails()", Colourings.uneven(kind).fails() / 100, kind);
    }
  }

  // Promise 19: "3 WEIGHTS of COLOURS below RANK, together.": from 0 to 45, and never those from RANK on.
  private static void leastAndGreatestWeightsTogether() {
    for (int rank = 1; rank <= 5; rank++) {
      ShareTables nines = Colourings.even(rank);
      ShareTables zeroes = Colourings.even(rank);
      for (int i = 0; i < 5; i++) {
        nines.weight(i, i < rank ? 9 : 0);
        zeroes.weight(i, i < rank ? 0 : 9);
      }
      check.due("rank " + rank + ", nines: count(3)", nines.count(3), 9 * rank);
      check.due("rank " + rank + ", zeroes: count(3)", zeroes.count(3), 0);
    }
  }

  // Promise 20: "THE TRACE.": at first nothing, and asking for it adds nothing.
  private static void traceOfNothing() {
    check.still(ShareTables::new, "new: trace()", ShareTables::trace, 0);
    check.still(Colourings::eight, "eight: trace()", ShareTables::trace, 111);
  }

  // Promise 20: "(numbers in brackets come to THE TRACE as often as worth() asks that body;": the KINDS from
  // the first to the last, and each again.
  private static void traceOfEachBody() {
    int[] due = {1, 11, 111};
    for (int kind = 0; kind <= 2; kind++) {
      ShareTables x = Colourings.alike(8);
      x.worth(kind, 1);
      check.due("worth(" + kind + ", 1): trace()", x.trace(), due[kind]);
      x.worth(kind, 1);
      check.due("and again: trace()", x.trace(), 2 * due[kind]);
      x.worth(kind, 0);
      check.due("and of 0: trace()", x.trace(), 3 * due[kind]);
    }
  }

  // Promise 20: "Refused, and nothing changes": no worth() that is refused, be it BAD or STATE, asks a body.
  private static void traceOfRefusedWorths() {
    ShareTables x = Colourings.eight();
    x.worth(-1, 0);
    x.worth(3, 0);
    x.worth(2, -1);
    x.worth(2, 5);
    check.due("behind BAD ones: trace()", x.trace(), 111);
    x.colour(0, 1, 0);
    x.worth(0, 0);
    x.worth(1, 0);
    x.worth(2, 0);
    check.due("behind STATE ones: trace()", x.trace(), 111);
  }

  // Promise 20: "as often as worth() asks that body": other calls for DEGREES and HULLS add nothing, and
  // points() takes nothing away.
  private static void traceOfOtherCalls() {
    ShareTables x = Colourings.eight();
    x.of(1, 1);
    x.closed(2, 1);
    x.closed(0, 2);
    x.order(2);
    x.number(1, 1, 1);
    x.chance(1, 6, 0);
    x.quotient(16);
    x.fuse(156);
    check.due("behind other calls: trace()", x.trace(), 111);
    x.points(1);
    check.due("behind points(1): trace()", x.trace(), 111);
  }

  // Promise 20: "THE TRACE.", "An object is used for at most 512 calls after it has been made": the 512th
  // call answers still.
  private static void traceOfTheLastCall() {
    ShareTables x = new ShareTables();
    for (int call = 1; call <= 511; call++) {
      x.worth(2, 0);
    }
    check.due("the 512th call: trace()", x.trace(), 511 * 111);
  }

  // Promise 1: "BAD = -1, STATE = -2, FULL = -3, NONE = -9;", "FULL": no call here is refused as FULL.
  private static void constants() {
    check.due("BAD", ShareTables.BAD, -1);
    check.due("STATE", ShareTables.STATE, -2);
    check.due("FULL", ShareTables.FULL, -3);
    check.due("NONE", ShareTables.NONE, -9);
  }
}
