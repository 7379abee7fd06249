/** Each edge that the document names for promises 7 to 12: number, of, turns, closed, order, worth. */
public final class EvenEdgesTest {
  private static final Check check = new Check("EvenEdgesTest");
  private static final Refusals refusals = new Refusals(check);

  public static void main(String[] args) {
    numberOfFirstAndLastColour();
    numberBesideTheLastColour();
    numberFollowsTheRank();
    leastAndGreatestNumber();
    numberOfUnevenOne();
    numberRefusedAsBadFirst();
    ofFirstAndLastColour();
    leastAndGreatestDegree();
    ofBesideTheLimits();
    ofUnevenOne();
    ofRefusedAsBadFirst();
    turnsAlways();
    turnsOfUnevenOne();
    closedSetOfNothingAndAll();
    closedNeedsColourZero();
    closedAsksForProductsAboveNothing();
    hullOfNothingAndAll();
    fewestAndMostClosedSets();
    closedDoesNotLookAtTheSet();
    closedBesideTheLimits();
    closedOfUnevenOne();
    closedRefusedAsBadFirst();
    orderOfNothingAndAll();
    orderOfTheHull();
    orderBesideTheLimits();
    orderOfUnevenOne();
    orderRefusedAsBadFirst();
    worthOfFirstAndLastKindAndColour();
    greatestWorth();
    worthBesideTheLimits();
    worthOfUnevenOne();
    worthRefusedAsBadFirst();
    check.end();
  }

  // Promise 7: "N(i, j, k).", "Of an EVEN one: N(i, j, k): how many POINTS e have (a, e) i and (e, b) j, for
  // each pair (a, b) with k.": 0 and RANK less 1, as each of the three.
  private static void numberOfFirstAndLastColour() {
    for (int rank = 1; rank <= 5; rank++) {
      int last = rank - 1;
      ShareTables x = Colourings.even(rank);
      check.due("rank " + rank + ": number(0, 0, 0)", x.number(0, 0, 0), 1);
      check.due("rank " + rank + ": number(last, 0, last)", x.number(last, 0, last), 1);
      check.due("rank " + rank + ": number(0, last, last)", x.number(0, last, last), 1);
      check.due("rank " + rank + ": number(last, last, last)", x.number(last, last, last), rank == 1 ? 1 : 0);
    }
  }

  // Promise 7: "BAD: COLOURS below RANK": -1 and RANK, as each of the three, and all beyond; "Refused, and
  // nothing changes".
  private static void numberBesideTheLastColour() {
    for (int rank = 1; rank <= 5; rank++) {
      for (int wrong : new int[] {-1, rank, rank + 1, 5}) {
        numberBad(rank, wrong);
      }
    }
    for (int wrong : Colourings.FAR) {
      numberBad(1, wrong);
      numberBad(5, wrong);
    }
  }

  private static void numberBad(int rank, int wrong) {
    refusals.bad(rank, "number(" + wrong + ", 0, 0)", x -> x.number(wrong, 0, 0));
    refusals.bad(rank, "number(0, " + wrong + ", 0)", x -> x.number(0, wrong, 0));
    refusals.bad(rank, "number(0, 0, " + wrong + ")", x -> x.number(0, 0, wrong));
    refusals.bad(rank, "number(" + wrong + " thrice)", x -> x.number(wrong, wrong, wrong));
  }

  // Promise 7: "BAD: COLOURS below RANK", "RANK: 1 and the greatest COLOUR that some pair has.": as it is
  // now, not as it was.
  private static void numberFollowsTheRank() {
    ShareTables x = Colourings.even(5);
    check.due("rank 5: number(4, 1, 0)", x.number(4, 1, 0), 1);
    x.ring(Colourings.digits(1, 2, 2, 1));
    check.due("rank 3: number(2, 2, 0)", x.number(2, 2, 0), 2);
    check.due("rank 3: number(3, 2, 0)", x.number(3, 2, 0), -1);
    x.points(1);
    check.due("rank 1: number(1, 1, 0)", x.number(1, 1, 0), -1);
  }

  // Promise 7: "N(i, j, k): how many POINTS e have (a, e) i and (e, b) j": from none to all but one.
  private static void leastAndGreatestNumber() {
    for (int n = 2; n <= 8; n++) {
      ShareTables x = Colourings.alike(n);
      check.due(n + " alike: number(1, 1, 0)", x.number(1, 1, 0), n - 1);
      check.due(n + " alike: number(1, 1, 1)", x.number(1, 1, 1), n - 2);
      check.due(n + " alike: number(0, 1, 0)", x.number(0, 1, 0), 0);
      check.due(n + " alike: number(0, 0, 1)", x.number(0, 0, 1), 0);
    }
  }

  // Promise 7: "STATE.", "STATE (as told: most often the COLOURING is not EVEN)": by each of the four ways to
  // fail.
  private static void numberOfUnevenOne() {
    refusals.uneven("number(0, 0, 0)", x -> x.number(0, 0, 0));
    refusals.uneven("number(2, 2, 2)", x -> x.number(2, 2, 2));
  }

  // Promise 7: "the first of these: BAD", "STATE": -1 and RANK, where nothing is even either.
  private static void numberRefusedAsBadFirst() {
    for (int wrong : new int[] {-1, 3, 4}) {
      refusals.badFirst("number(" + wrong + ", 0, 0)", x -> x.number(wrong, 0, 0));
      refusals.badFirst("number(0, " + wrong + ", 0)", x -> x.number(0, wrong, 0));
      refusals.badFirst("number(0, 0, " + wrong + ")", x -> x.number(0, 0, wrong));
    }
  }

  // Promise 8: "REVERSE (what = 0), DEGREE (1) of a COLOUR.", "REVERSE of i: the COLOUR of (b, a) where (a,
  // b) has i.": COLOUR 0 and the last, both ways to ask.
  private static void ofFirstAndLastColour() {
    for (int rank = 1; rank <= 5; rank++) {
      ShareTables x = Colourings.even(rank);
      check.due("rank " + rank + ": of(0, 0)", x.of(0, 0), 0);
      check.due("rank " + rank + ": of(0, 1)", x.of(0, 1), 1);
      check.due("rank " + rank + ": of(last, 0)", x.of(rank - 1, 0), rank == 1 ? 0 : 1);
      check.due("rank " + rank + ": of(last, 1)", x.of(rank - 1, 1), 1);
    }
  }

  // Promise 8: "DEGREE of i: how many pairs (0, b) have i.": from 1 to all points but one.
  private static void leastAndGreatestDegree() {
    for (int n = 2; n <= 8; n++) {
      check.due(n + " alike: of(0, 1)", Colourings.alike(n).of(0, 1), 1);
      check.due(n + " alike: of(1, 1)", Colourings.alike(n).of(1, 1), n - 1);
      check.due(n + " alike: of(1, 0)", Colourings.alike(n).of(1, 0), 1);
    }
  }

  // Promise 8: "BAD", "(what = 0), DEGREE (1) of a COLOUR.": what -1 and 2, the COLOURS -1 and RANK;
  // "Refused, and nothing changes".
  private static void ofBesideTheLimits() {
    for (int rank = 1; rank <= 5; rank++) {
      for (int wrong : new int[] {-1, rank, rank + 1, 5}) {
        refusals.bad(rank, "of(" + wrong + ", 0)", x -> x.of(wrong, 0));
        refusals.bad(rank, "of(" + wrong + ", 1)", x -> x.of(wrong, 1));
      }
      refusals.bad(rank, "of(0, -1)", x -> x.of(0, -1));
      refusals.bad(rank, "of(0, 2)", x -> x.of(0, 2));
    }
    for (int wrong : Colourings.FAR) {
      refusals.bad(5, "of(" + wrong + ", 1)", x -> x.of(wrong, 1));
      refusals.bad(5, "of(4, " + wrong + ")", x -> x.of(4, wrong));
    }
  }

  // Promise 8: "STATE.", "STATE (as told: most often the COLOURING is not EVEN)": by each of the four ways to
  // fail.
  private static void ofUnevenOne() {
    refusals.uneven("of(0, 0)", x -> x.of(0, 0));
    refusals.uneven("of(0, 1)", x -> x.of(0, 1));
    refusals.uneven("of(2, 0)", x -> x.of(2, 0));
    refusals.uneven("of(2, 1)", x -> x.of(2, 1));
  }

  // Promise 8: "the first of these: BAD", "STATE": where nothing is even either.
  private static void ofRefusedAsBadFirst() {
    refusals.badFirst("of(-1, 0)", x -> x.of(-1, 0));
    refusals.badFirst("of(3, 1)", x -> x.of(3, 1));
    refusals.badFirst("of(0, -1)", x -> x.of(0, -1));
    refusals.badFirst("of(0, 2)", x -> x.of(0, 2));
  }

  // Promise 9: "Whether N(i, j, k) is N(j, i, k) for all.": 1 with one COLOUR alone, and with five; a 0 needs
  // more than five COLOURS.
  private static void turnsAlways() {
    for (int rank = 1; rank <= 5; rank++) {
      check.due("rank " + rank + ": turns()", Colourings.even(rank).turns(), 1);
    }
    check.still(Colourings::eight, "eight: turns()", ShareTables::turns, 1);
    check.still(Colourings::cube, "cube: turns()", ShareTables::turns, 1);
  }

  // Promise 9: "STATE.", "STATE (as told: most often the COLOURING is not EVEN)": by each of the four ways to
  // fail.
  private static void turnsOfUnevenOne() {
    refusals.uneven("turns()", ShareTables::turns);
  }

  // Promise 10: "Whether a set is CLOSED (what = 0)", "A set of COLOURS (bits) is CLOSED, if it has 0":
  // nothing, 0 alone, everything.
  private static void closedSetOfNothingAndAll() {
    for (int rank = 1; rank <= 5; rank++) {
      int all = (1 << rank) - 1;
      check.due("rank " + rank + ": closed(0, 0)", Colourings.even(rank).closed(0, 0), 0);
      check.due("rank " + rank + ": closed(1, 0)", Colourings.even(rank).closed(1, 0), 1);
      check.due("rank " + rank + ": closed(all, 0)", Colourings.even(rank).closed(all, 0), 1);
    }
  }

  // Promise 10: "is CLOSED, if it has 0": everything else without 0 is none.
  private static void closedNeedsColourZero() {
    for (int rank = 1; rank <= 5; rank++) {
      int others = (1 << rank) - 2;
      check.due("rank " + rank + ": closed(all but 0, 0)", Colourings.even(rank).closed(others, 0), 0);
    }
    for (int set = 0; set < 32; set += 2) {
      check.due("eight: closed(" + set + ", 0)", Colourings.eight().closed(set, 0), 0);
    }
  }

  // Promise 10: "and with i, j each k with N(i, j, k) above 0.": one COLOUR too few, and just enough; i and j
  // may be the same.
  private static void closedAsksForProductsAboveNothing() {
    check.due("rank 4: closed(0 and 2, 0)", Colourings.even(4).closed(5, 0), 1);
    check.due("rank 4: closed(0 and 1, 0)", Colourings.even(4).closed(3, 0), 0);
    check.due("rank 4: closed(all but 3, 0)", Colourings.even(4).closed(7, 0), 0);
    check.due("rank 4: closed(all but 2, 0)", Colourings.even(4).closed(11, 0), 0);
    check.due("eight: closed(0 and 4, 0)", Colourings.eight().closed(17, 0), 1);
    check.due("eight: closed(0, 2, 4, 0)", Colourings.eight().closed(21, 0), 1);
    check.due("eight: closed(0 and 2, 0)", Colourings.eight().closed(5, 0), 0);
    check.due("rank 2: closed(0 and 1, 0)", Colourings.even(2).closed(3, 0), 1);
  }

  // Promise 10: "its HULL (1)", "HULL of a set: the least CLOSED one with all of it.": of nothing and of 0 it
  // is 0 alone, of everything everything.
  private static void hullOfNothingAndAll() {
    for (int rank = 1; rank <= 5; rank++) {
      int all = (1 << rank) - 1;
      check.due("rank " + rank + ": closed(0, 1)", Colourings.even(rank).closed(0, 1), 1);
      check.due("rank " + rank + ": closed(1, 1)", Colourings.even(rank).closed(1, 1), 1);
      check.due("rank " + rank + ": closed(all, 1)", Colourings.even(rank).closed(all, 1), all);
      check.due("rank " + rank + ": closed(all but 0, 1)", Colourings.even(rank).closed(all - 1, 1), all);
    }
    check.due("eight: closed(4 alone, 1)", Colourings.eight().closed(16, 1), 17);
    check.due("eight: closed(1 alone, 1)", Colourings.eight().closed(2, 1), 31);
  }

  // Promise 10: "how many CLOSED sets there are (2;": one with one point, two with one COLOUR beside 0, six
  // with four that pair the points.
  private static void fewestAndMostClosedSets() {
    check.due("one point: closed(0, 2)", Colourings.even(1).closed(0, 2), 1);
    for (int n = 2; n <= 8; n++) {
      check.due(n + " alike: closed(0, 2)", Colourings.alike(n).closed(0, 2), 2);
    }
    check.due("four points: closed(0, 2)", Colourings.rows("0123", "1032", "2301", "3210").closed(0, 2), 5);
    ShareTables eight = Colourings.rows("01234444", "10324444", "23014444", "32104444",
        "44440123", "44441032", "44442301", "44443210");
    check.due("twice four points: closed(0, 2)", eight.closed(0, 2), 6);
  }

  // Promise 10: "the set is not looked at)": with bits beyond RANK, below 0, nothing, everything.
  private static void closedDoesNotLookAtTheSet() {
    for (int rank = 1; rank <= 5; rank++) {
      int due = new int[] {1, 2, 2, 3, 2}[rank - 1];
      for (int set : new int[] {0, 1, 1 << rank, 32, -1, Integer.MIN_VALUE, Integer.MAX_VALUE}) {
        int same = rank;
        check.still(() -> Colourings.even(same), "rank " + rank + ": closed(" + set + ", 2)", x -> x.closed(set, 2), due);
      }
    }
  }

  // Promise 10: "BAD: bits beyond RANK, or below 0": the bit RANK, alone and with all others, and -1; what -1
  // and 3; "Refused, and nothing changes".
  private static void closedBesideTheLimits() {
    for (int rank = 1; rank <= 5; rank++) {
      for (int set : new int[] {-1, 1 << rank, (2 << rank) - 1, 64, 1 << 30}) {
        closedBad(rank, set);
      }
      refusals.bad(rank, "closed(1, -1)", x -> x.closed(1, -1));
      refusals.bad(rank, "closed(1, 3)", x -> x.closed(1, 3));
    }
    for (int wrong : Colourings.FAR) {
      closedBad(1, wrong);
      closedBad(5, wrong);
      refusals.bad(5, "closed(1, " + wrong + ")", x -> x.closed(1, wrong));
    }
  }

  private static void closedBad(int rank, int set) {
    refusals.bad(rank, "closed(" + set + ", 0)", x -> x.closed(set, 0));
    refusals.bad(rank, "closed(" + set + ", 1)", x -> x.closed(set, 1));
  }

  // Promise 10: "STATE.", "STATE (as told: most often the COLOURING is not EVEN)": by each of the four ways
  // to fail, for nothing, all, and sets not looked at.
  private static void closedOfUnevenOne() {
    for (int set : new int[] {0, 1, 7}) {
      refusals.uneven("closed(" + set + ", 0)", x -> x.closed(set, 0));
      refusals.uneven("closed(" + set + ", 1)", x -> x.closed(set, 1));
    }
    for (int set : new int[] {0, 8, -1}) {
      refusals.uneven("closed(" + set + ", 2)", x -> x.closed(set, 2));
    }
  }

  // Promise 10: "the first of these: BAD", "STATE": where nothing is even either.
  private static void closedRefusedAsBadFirst() {
    for (int set : new int[] {8, 15, -1}) {
      refusals.badFirst("closed(" + set + ", 0)", x -> x.closed(set, 0));
      refusals.badFirst("closed(" + set + ", 1)", x -> x.closed(set, 1));
    }
    refusals.badFirst("closed(0, -1)", x -> x.closed(0, -1));
    refusals.badFirst("closed(0, 3)", x -> x.closed(0, 3));
  }

  // Promise 11: "ORDER of the HULL of a set.", "ORDER of a CLOSED one: its DEGREES, together.": 1 of nothing
  // and of 0, all points of everything.
  private static void orderOfNothingAndAll() {
    for (int rank = 1; rank <= 5; rank++) {
      check.due("rank " + rank + ": order(0)", Colourings.even(rank).order(0), 1);
      check.due("rank " + rank + ": order(1)", Colourings.even(rank).order(1), 1);
      check.due("rank " + rank + ": order(all)", Colourings.even(rank).order((1 << rank) - 1), rank);
    }
    for (int n = 2; n <= 8; n++) {
      check.due(n + " alike: order(3)", Colourings.alike(n).order(3), n);
      check.due(n + " alike: order(0)", Colourings.alike(n).order(0), 1);
    }
  }

  // Promise 11: "ORDER of the HULL of a set.": of a set that is not CLOSED, the HULL's and not its own.
  private static void orderOfTheHull() {
    check.due("eight: order(4 alone)", Colourings.eight().order(16), 2);
    check.due("eight: order(2 alone)", Colourings.eight().order(4), 4);
    check.due("eight: order(1 alone)", Colourings.eight().order(2), 8);
    check.due("rank 5: order(4 alone)", Colourings.even(5).order(16), 5);
  }

  // Promise 11: "BAD", "bits beyond RANK, or below 0": the bit RANK, alone and with all others, and -1;
  // "Refused, and nothing changes".
  private static void orderBesideTheLimits() {
    for (int rank = 1; rank <= 5; rank++) {
      for (int set : new int[] {-1, 1 << rank, (2 << rank) - 1, 64, 1 << 30}) {
        refusals.bad(rank, "order(" + set + ")", x -> x.order(set));
      }
    }
    for (int set : Colourings.FAR) {
      refusals.bad(1, "order(" + set + ")", x -> x.order(set));
      refusals.bad(5, "order(" + set + ")", x -> x.order(set));
    }
  }

  // Promise 11: "STATE.", "STATE (as told: most often the COLOURING is not EVEN)": by each of the four ways
  // to fail.
  private static void orderOfUnevenOne() {
    for (int set : new int[] {0, 1, 7}) {
      refusals.uneven("order(" + set + ")", x -> x.order(set));
    }
  }

  // Promise 11: "the first of these: BAD", "STATE": where nothing is even either.
  private static void orderRefusedAsBadFirst() {
    for (int set : new int[] {8, 15, -1}) {
      refusals.badFirst("order(" + set + ")", x -> x.order(set));
    }
  }

  // Promise 12: "WORTH.", "WORTHS are of KINDS over one another: 0 DEGREES, 1 HULLS, 2 TRIPLES; DEGREES
  // stands over HULLS, HULLS over TRIPLES.": the first KIND and the last, COLOUR 0 and the last.
  private static void worthOfFirstAndLastKindAndColour() {
    for (int rank = 1; rank <= 5; rank++) {
      int[] last = rank == 1 ? new int[] {1, 1, 2} : new int[] {1, rank, rank};
      for (int kind = 0; kind <= 2; kind++) {
        ShareTables x = Colourings.even(rank);
        check.due("rank " + rank + ": worth(" + kind + ", 0)", x.worth(kind, 0), kind == 2 ? 2 : 1);
        check.due("rank " + rank + ": worth(" + kind + ", last)", x.worth(kind, rank - 1), last[kind]);
      }
    }
  }

  // Promise 12: "WORTH of a COLOUR i (numbers in brackets", "DEGREES its DEGREE (1). HULLS up times the ORDER
  // of the HULL of i (10). TRIPLES up, and N(i, i, i) (100).", "up", "is what the KIND that stands over it
  // does)": the greatest, of eight points.
  private static void greatestWorth() {
    ShareTables x = Colourings.alike(8);
    check.due("eight alike: worth(0, 1)", x.worth(0, 1), 7);
    check.due("eight alike: worth(1, 1)", x.worth(1, 1), 7 * 8);
    check.due("eight alike: worth(2, 1)", x.worth(2, 1), 7 * 8 + 6);
  }

  // Promise 12: "BAD", "of KINDS over one another: 0 DEGREES, 1 HULLS, 2 TRIPLES": -1 and 3, the COLOURS -1
  // and RANK; "Refused, and nothing changes".
  private static void worthBesideTheLimits() {
    for (int rank = 1; rank <= 5; rank++) {
      for (int wrong : new int[] {-1, rank, rank + 1, 5}) {
        for (int kind = 0; kind <= 2; kind++) {
          int asked = kind;
          refusals.bad(rank, "worth(" + kind + ", " + wrong + ")", x -> x.worth(asked, wrong));
        }
      }
      refusals.bad(rank, "worth(-1, 0)", x -> x.worth(-1, 0));
      refusals.bad(rank, "worth(3, 0)", x -> x.worth(3, 0));
    }
    for (int wrong : Colourings.FAR) {
      refusals.bad(5, "worth(2, " + wrong + ")", x -> x.worth(2, wrong));
      refusals.bad(5, "worth(" + wrong + ", 4)", x -> x.worth(wrong, 4));
    }
  }

  // Promise 12: "STATE.", "STATE (as told: most often the COLOURING is not EVEN)": by each of the four ways
  // to fail; THE TRACE too stays.
  private static void worthOfUnevenOne() {
    for (int kind = 0; kind <= 2; kind++) {
      int asked = kind;
      refusals.uneven("worth(" + kind + ", 0)", x -> x.worth(asked, 0));
      refusals.uneven("worth(" + kind + ", 2)", x -> x.worth(asked, 2));
    }
  }

  // Promise 12: "the first of these: BAD", "STATE": where nothing is even either.
  private static void worthRefusedAsBadFirst() {
    refusals.badFirst("worth(-1, 0)", x -> x.worth(-1, 0));
    refusals.badFirst("worth(3, 0)", x -> x.worth(3, 0));
    refusals.badFirst("worth(0, -1)", x -> x.worth(0, -1));
    refusals.badFirst("worth(0, 3)", x -> x.worth(0, 3));
    refusals.badFirst("worth(2, 3)", x -> x.worth(2, 3));
  }
}
