/** The boundary cases of promises 8 to 12, a test for each. */
public final class BoundaryAskTest {
  private static final Sentences sentences = new Sentences("BoundaryAskTest");
  private static final int[] BEHIND_THREE = {3, 4, 399, 400, 401, Integer.MAX_VALUE};

  // F 1, 1, 2; T 3, 6, 6; C 8, 9, 9.
  private static IssueTimes three() {
    IssueTimes x = new IssueTimes();
    x.put(3, 1, 0, 0);
    x.put(0, 0, 1, 0);
    x.put(0, 0, 0, 0);
    return x;
  }

  // Promise 8.

  private static void timeOfANumberBelow0() {
    Due due = sentences.about("Promise 8: time", "NONE if there is none such");
    for (int i : Rows.TOO_SMALL) {
      for (int what = 0; what < 5; what++) {
        due.is("time(" + i + ", " + what + ")", three().time(i, what), -1);
      }
    }
  }

  private static void timeOfANumberBehindTheLast() {
    Due due = sentences.about("Promise 8: time", "NONE if there is none such");
    for (int i : BEHIND_THREE) {
      for (int what = 0; what < 5; what++) {
        due.is("time(" + i + ", " + what + ")", three().time(i, what), -1);
      }
    }
    due.is("time(2, 0)", three().time(2, 0), 2);
  }

  private static void timeInAnEmptyRow() {
    Due due = sentences.about("Promise 8: time", "NONE if there is none such");
    for (int what = 0; what < 5; what++) {
      due.is("time(0, " + what + ")", new IssueTimes().time(0, what), -1);
    }
  }

  private static void timeInAFullRow() {
    Due due = sentences.about("Promise 8: time", "NONE if there is none such");
    IssueTimes x = Rows.full();
    int[] want = {200, 202, 205, 2, 1};
    for (int what = 0; what < 5; what++) {
      due.is("time(399, " + what + ")", x.time(399, what), want[what]);
      due.is("time(400, " + what + ")", x.time(400, what), -1);
    }
  }

  private static void timeOfOneThatWent() {
    Due due = sentences.about("Promise 8: time", "NONE if there is none such");
    IssueTimes x = three();
    x.drop(1);
    for (int what = 0; what < 5; what++) {
      due.is("time(2, " + what + ")", x.time(2, what), -1);
    }
  }

  private static void timeWithAWhatTooSmall() {
    Due due = sentences.about("Promise 8: time", "or no such what");
    for (int what : Rows.TOO_SMALL) {
      due.is("time(0, " + what + ")", three().time(0, what), -1);
    }
    due.is("time(0, 0)", three().time(0, 0), 1);
  }

  private static void timeWithAWhatTooLarge() {
    Due due = sentences.about("Promise 8: time", "or no such what");
    for (int what : new int[] {5, 6, 7, 8, 256, Integer.MAX_VALUE}) {
      due.is("time(2, " + what + ")", three().time(2, what), -1);
    }
    due.is("time(2, 4)", three().time(2, 4), 1);
  }

  private static void timeWithBothWrong() {
    Due due = sentences.about("Promise 8: time", "NONE if there is none such, or no such what.");
    due.is("time(3, 5)", three().time(3, 5), -1);
    due.is("time(-1, -1)", three().time(-1, -1), -1);
  }

  private static void theGroupOfTheLastOne() {
    Due due = sentences.about("Promise 8: time", "3: how many there are in its GROUP");
    IssueTimes x = Rows.ofPlain(1);
    due.timeOfAll("one", x, 3, 1);
    x.put(0, 0, 0, 0);
    due.timeOfAll("its second one came", x, 3, 2, 2);
    x.drop(1);
    due.timeOfAll("and went", x, 3, 1);
    x.fail();
    x.put(0, 0, 0, 0);
    due.timeOfAll("a group of its own came", x, 3, 1, 1);
  }

  private static void theFirstOneIsNoSecondOne() {
    Due due = sentences.about("Promise 8: time",
        "4: 1 if it is the second one of a PAIR that is issued at once, else 0.");
    for (int kind = 0; kind < 8; kind++) {
      due.timeOfAll("kind " + kind, Rows.ofKinds(kind), 4, 0);
    }
    due.timeOfAll("two", Rows.ofPlain(2), 4, 0, 1);
  }

  // Numbers 0 and 1 are no pair; 1 and 2 are one, issued at once; 2 and 3 would be a third one.
  private static void aPairThatIsNotIssuedAtOnce() {
    Due due = sentences.about("Promise 8: time",
        "4: 1 if it is the second one of a PAIR that is issued at once, else 0.");
    IssueTimes x = three();
    x.put(0, 0, 0, 0);
    due.timeOfAll("four", x, 4, 0, 0, 1, 0);
    due.timeOfAll("four", x, 1, 3, 6, 6, 7);
  }

  // Promise 9.

  private static void ofANumberBelow0() {
    Due due = sentences.about("Promise 9: of", "NONE likewise.");
    for (int i : Rows.TOO_SMALL) {
      for (int what = 0; what < 8; what++) {
        due.is("of(" + i + ", " + what + ")", three().of(i, what), -1);
      }
    }
  }

  private static void ofANumberBehindTheLast() {
    Due due = sentences.about("Promise 9: of", "NONE likewise.");
    for (int i : BEHIND_THREE) {
      for (int what = 0; what < 8; what++) {
        due.is("of(" + i + ", " + what + ")", three().of(i, what), -1);
      }
    }
    due.is("of(2, 0)", three().of(2, 0), 0);
  }

  private static void ofInAnEmptyRow() {
    Due due = sentences.about("Promise 9: of", "NONE likewise.");
    for (int what = 0; what < 8; what++) {
      due.is("of(0, " + what + ")", new IssueTimes().of(0, what), -1);
    }
  }

  private static void ofInAFullRow() {
    Due due = sentences.about("Promise 9: of", "NONE likewise.");
    IssueTimes x = Rows.full();
    x.drop(1);
    x.put(3, 4, 5, 6);
    int[] want = {3, 4, 5, 6, 0, 0, 0, 1};
    for (int what = 0; what < 8; what++) {
      due.is("of(399, " + what + ")", x.of(399, what), want[what]);
      due.is("of(400, " + what + ")", x.of(400, what), -1);
    }
  }

  private static void ofOneThatWent() {
    Due due = sentences.about("Promise 9: of", "NONE likewise.");
    IssueTimes x = three();
    x.drop(1);
    for (int what = 0; what < 8; what++) {
      due.is("of(2, " + what + ")", x.of(2, what), -1);
    }
  }

  private static void ofWithAWhatTooSmall() {
    Due due = sentences.about("Promise 9: of", "NONE likewise.");
    for (int what : Rows.TOO_SMALL) {
      due.is("of(0, " + what + ")", three().of(0, what), -1);
    }
    due.is("of(0, 0)", three().of(0, 0), 3);
  }

  private static void ofWithAWhatTooLarge() {
    Due due = sentences.about("Promise 9: of", "NONE likewise.");
    for (int what : new int[] {8, 9, 16, 256, Integer.MAX_VALUE}) {
      due.is("of(1, " + what + ")", three().of(1, what), -1);
    }
    due.is("of(1, 7)", three().of(1, 7), 1);
  }

  private static void ofWithBothWrong() {
    Due due = sentences.about("Promise 9: of", "NONE likewise.");
    due.is("of(3, 8)", three().of(3, 8), -1);
    due.is("of(-1, -1)", three().of(-1, -1), -1);
  }

  private static void theFirstOneLiesBehindNone() {
    Due due = sentences.about("Promise 9: of",
        "7: 1 if it lies BEHIND the one ahead of it, else 0 (0 for the first one).");
    for (int kind = 0; kind < 8; kind++) {
      due.ofAll("kind " + kind, Rows.ofKinds(kind), 7, 0);
    }
    due.ofAll("two", Rows.ofPlain(2), 7, 0, 1);
  }

  private static void theFirstOneIsInNoSlotAndNotRedirected() {
    Due due = sentences.about("Promise 9: of",
        "5: 1 if it is in a SLOT, else 0, 6: 1 if it is REDIRECTED, else 0");
    for (int kind = 0; kind < 8; kind++) {
      due.ofAll("kind " + kind, Rows.ofKinds(kind), 5, 0);
      due.ofAll("kind " + kind, Rows.ofKinds(kind), 6, 0);
    }
  }

  // Promise 10.

  private static void theStageAroundF() {
    Due due = sentences.about("Promise 10: stage", "0 it is not fetched yet, 1 in the queue (from F on)");
    due.is("stage(0, 0)", three().stage(0, 0), 0);
    due.is("stage(0, 1)", three().stage(0, 1), 1);
    due.is("stage(2, 1)", three().stage(2, 1), 0);
    due.is("stage(2, 2)", three().stage(2, 2), 1);
  }

  private static void theStageAroundT() {
    Due due = sentences.about("Promise 10: stage", "2 at work (from T on)");
    due.is("stage(0, 2)", three().stage(0, 2), 1);
    due.is("stage(0, 3)", three().stage(0, 3), 2);
    due.is("stage(1, 5)", three().stage(1, 5), 1);
    due.is("stage(1, 6)", three().stage(1, 6), 2);
  }

  private static void theStageAroundC() {
    Due due = sentences.about("Promise 10: stage", "3 done (from C on)");
    due.is("stage(0, 7)", three().stage(0, 7), 2);
    due.is("stage(0, 8)", three().stage(0, 8), 3);
    due.is("stage(2, 8)", three().stage(2, 8), 2);
    due.is("stage(2, 9)", three().stage(2, 9), 3);
    due.is("stage(0, most)", three().stage(0, Integer.MAX_VALUE), 3);
  }

  private static void theStageInCycle0() {
    Due due = sentences.about("Promise 10: stage", "or cycle is below 0");
    for (int i = 0; i < 3; i++) {
      due.is("stage(" + i + ", 0)", three().stage(i, 0), 0);
    }
  }

  private static void theStageInACycleBelow0() {
    Due due = sentences.about("Promise 10: stage", "or cycle is below 0");
    for (int cycle : Rows.TOO_SMALL) {
      for (int i = 0; i < 3; i++) {
        due.is("stage(" + i + ", " + cycle + ")", three().stage(i, cycle), -1);
      }
    }
  }

  private static void theStageOfANumberBelow0() {
    Due due = sentences.about("Promise 10: stage", "NONE if there is none such");
    for (int i : Rows.TOO_SMALL) {
      due.is("stage(" + i + ", 0)", three().stage(i, 0), -1);
      due.is("stage(" + i + ", 5)", three().stage(i, 5), -1);
    }
  }

  private static void theStageOfANumberBehindTheLast() {
    Due due = sentences.about("Promise 10: stage", "NONE if there is none such");
    for (int i : BEHIND_THREE) {
      due.is("stage(" + i + ", 0)", three().stage(i, 0), -1);
      due.is("stage(" + i + ", 5)", three().stage(i, 5), -1);
    }
  }

  private static void theStageInAnEmptyRow() {
    Due due = sentences.about("Promise 10: stage", "NONE if there is none such");
    due.is("stage(0, 0)", new IssueTimes().stage(0, 0), -1);
    due.is("stage(0, 5)", new IssueTimes().stage(0, 5), -1);
  }

  private static void theStageInAFullRow() {
    Due due = sentences.about("Promise 10: stage", "NONE if there is none such");
    IssueTimes x = Rows.full();
    due.is("stage(399, 199)", x.stage(399, 199), 0);
    due.is("stage(399, 200)", x.stage(399, 200), 1);
    due.is("stage(399, 202)", x.stage(399, 202), 2);
    due.is("stage(399, 205)", x.stage(399, 205), 3);
    due.is("stage(400, 205)", x.stage(400, 205), -1);
  }

  private static void theStageOfOneThatWent() {
    Due due = sentences.about("Promise 10: stage", "NONE if there is none such");
    IssueTimes x = three();
    x.drop(1);
    due.is("stage(2, 2)", x.stage(2, 2), -1);
  }

  private static void theStageWithBothWrong() {
    Due due = sentences.about("Promise 10: stage", "NONE if there is none such, or cycle is below 0.");
    due.is("stage(-1, -1)", three().stage(-1, -1), -1);
    due.is("stage(3, -1)", three().stage(3, -1), -1);
  }

  // Promise 11.

  private static void manyInAStageTooSmall() {
    Due due = sentences.about("Promise 11: many", "NONE if there is no such stage");
    for (int stage : Rows.TOO_SMALL) {
      due.is("many(" + stage + ", 0)", three().many(stage, 0), -1);
      due.is("many(" + stage + ", 6)", three().many(stage, 6), -1);
    }
    due.is("many(0, 0)", three().many(0, 0), 3);
  }

  private static void manyInAStageTooLarge() {
    Due due = sentences.about("Promise 11: many", "NONE if there is no such stage");
    for (int stage : new int[] {4, 5, 256, Integer.MAX_VALUE}) {
      due.is("many(" + stage + ", 0)", three().many(stage, 0), -1);
      due.is("many(" + stage + ", 6)", three().many(stage, 6), -1);
    }
    due.is("many(3, 9)", three().many(3, 9), 3);
  }

  private static void manyInACycleBelow0() {
    Due due = sentences.about("Promise 11: many", "or cycle is below 0");
    for (int cycle : Rows.TOO_SMALL) {
      for (int stage = 0; stage < 4; stage++) {
        due.is("many(" + stage + ", " + cycle + ")", three().many(stage, cycle), -1);
      }
    }
  }

  private static void manyInCycle0() {
    Due due = sentences.about("Promise 11: many", "or cycle is below 0");
    int[] want = {3, 0, 0, 0};
    for (int stage = 0; stage < 4; stage++) {
      due.is("many(" + stage + ", 0)", three().many(stage, 0), want[stage]);
    }
  }

  private static void manyInTheLastCycle() {
    Due due = sentences.about("Promise 11: many", "How many INSTRUCTIONS are in a stage (0 .. 3) in a cycle");
    int[] want = {0, 0, 0, 3};
    for (int stage = 0; stage < 4; stage++) {
      due.is("many(" + stage + ", most)", three().many(stage, Integer.MAX_VALUE), want[stage]);
    }
  }

  private static void manyAroundFTAndC() {
    Due due = sentences.about("Promise 11: many", "How many INSTRUCTIONS are in a stage (0 .. 3) in a cycle");
    int[][] want = {
        {3, 1, 0, 0, 0, 0, 0, 0, 0, 0},
        {0, 2, 3, 2, 2, 2, 0, 0, 0, 0},
        {0, 0, 0, 1, 1, 1, 3, 3, 2, 0},
        {0, 0, 0, 0, 0, 0, 0, 0, 1, 3}};
    for (int stage = 0; stage < 4; stage++) {
      for (int cycle = 0; cycle < 10; cycle++) {
        due.is("many(" + stage + ", " + cycle + ")", three().many(stage, cycle), want[stage][cycle]);
      }
    }
  }

  private static void manyInAnEmptyRow() {
    Due due = sentences.about("Promise 11: many", "How many INSTRUCTIONS are in a stage (0 .. 3) in a cycle");
    for (int stage = 0; stage < 4; stage++) {
      due.is("many(" + stage + ", 0)", new IssueTimes().many(stage, 0), 0);
      due.is("many(" + stage + ", 7)", new IssueTimes().many(stage, 7), 0);
    }
    due.is("many(4, 0)", new IssueTimes().many(4, 0), -1);
    due.is("many(0, -1)", new IssueTimes().many(0, -1), -1);
  }

  private static void manyInAFullRow() {
    Due due = sentences.about("Promise 11: many", "How many INSTRUCTIONS are in a stage (0 .. 3) in a cycle");
    IssueTimes x = Rows.full();
    due.is("many(0, 0)", x.many(0, 0), 400);
    due.is("many(3, 205)", x.many(3, 205), 400);
    due.is("many(3, 204)", x.many(3, 204), 398);
    due.is("many(0, 199)", x.many(0, 199), 2);
    due.is("many(0, 200)", x.many(0, 200), 0);
  }

  private static void manyWithBothWrong() {
    Due due = sentences.about("Promise 11: many", "NONE if there is no such stage, or cycle is below 0.");
    due.is("many(-1, -1)", three().many(-1, -1), -1);
    due.is("many(4, -1)", three().many(4, -1), -1);
  }

  // Promise 12.

  private static void lookTooSmall() {
    Due due = sentences.about("Promise 12: look", "NONE for any other which.");
    for (int which : Rows.TOO_SMALL) {
      due.is("look(" + which + ")", three().look(which), -1);
      due.is("look(" + which + ") of an empty row", new IssueTimes().look(which), -1);
    }
    due.is("look(0)", three().look(0), 3);
  }

  private static void lookTooLarge() {
    Due due = sentences.about("Promise 12: look", "NONE for any other which.");
    for (int which : new int[] {7, 8, 256, Integer.MAX_VALUE}) {
      due.is("look(" + which + ")", three().look(which), -1);
      due.is("look(" + which + ") of an empty row", new IssueTimes().look(which), -1);
    }
    due.is("look(6)", three().look(6), 3);
  }

  private static void howManyInAnEmptyAndAFullRow() {
    Due due = sentences.about("Promise 12: look", "which 0: INSTRUCTIONS");
    due.is("empty", new IssueTimes().look(0), 0);
    due.is("full", Rows.full().look(0), 400);
  }

  private static void theLastCWithoutOne() {
    Due due = sentences.about("Promise 12: look", "1: C of the last one (0 without one)");
    due.is("new", new IssueTimes().look(1), 0);
    IssueTimes x = three();
    due.is("three", x.look(1), 9);
    x.drop(2);
    due.is("the first one alone", x.look(1), 8);
    x.drop(1);
    due.is("dropped", x.look(1), 0);
    x = three();
    x.clear();
    due.is("cleared", x.look(1), 0);
    due.is("full", Rows.full().look(1), 205);
  }

  private static void cyclesWithTwoDone() {
    Due due = sentences.about("Promise 12: look", "2: cycles in which two are done");
    due.is("none", new IssueTimes().look(2), 0);
    due.is("one", Rows.ofPlain(1).look(2), 0);
    due.is("two at once", Rows.ofPlain(2).look(2), 1);
    due.is("two apart", Rows.ofKinds(0, 4).look(2), 0);
    due.is("two issued apart and done at once", Rows.ofKinds(4, 3).look(2), 1);
    due.is("full", Rows.full().look(2), 200);
  }

  private static void theLongestWayFrom0() {
    Due due = sentences.about("Promise 12: look",
        "3: the longest way from one C to the next one (from 0 to the first one)");
    due.is("none", new IssueTimes().look(3), 0);
    due.is("one", Rows.ofPlain(1).look(3), 6);
    due.is("one divide", Rows.ofKinds(4).look(3), 23);
    due.is("the first way is the longest", Rows.ofKinds(0, 0, 0).look(3), 6);
  }

  private static void theLongestWayInside() {
    Due due = sentences.about("Promise 12: look",
        "3: the longest way from one C to the next one (from 0 to the first one)");
    due.is("the last way", Rows.ofKinds(0, 4).look(3), 17);
    due.is("a way inside", Rows.ofKinds(0, 4, 0, 0).look(3), 17);
    due.is("the longest one went", lookBehindDrop(3), 6);
  }

  private static int lookBehindDrop(int which) {
    IssueTimes x = Rows.ofKinds(0, 4);
    x.drop(1);
    return x.look(which);
  }

  private static void groups() {
    Due due = sentences.about("Promise 12: look", "4: GROUPS");
    due.is("none", new IssueTimes().look(4), 0);
    due.is("one", Rows.ofPlain(1).look(4), 1);
    due.is("two", Rows.ofPlain(2).look(4), 1);
    due.is("three", Rows.ofPlain(3).look(4), 2);
    due.is("two apart", Rows.ofKinds(6, 0).look(4), 2);
    due.is("full", Rows.full().look(4), 200);
  }

  private static void pairs() {
    Due due = sentences.about("Promise 12: look", "5: PAIRS that are issued at once");
    due.is("none", new IssueTimes().look(5), 0);
    due.is("one", Rows.ofPlain(1).look(5), 0);
    due.is("two", Rows.ofPlain(2).look(5), 1);
    due.is("three", Rows.ofPlain(3).look(5), 1);
    due.is("two apart", Rows.ofKinds(1, 1).look(5), 0);
    due.is("full", Rows.full().look(5), 200);
  }

  private static void theMostAtWork() {
    Due due = sentences.about("Promise 12: look", "6: the most INSTRUCTIONS at work at once");
    due.is("none", new IssueTimes().look(6), 0);
    due.is("one", Rows.ofPlain(1).look(6), 1);
    due.is("two", Rows.ofPlain(2).look(6), 2);
    due.is("full", Rows.full().look(6), 6);
  }

  // T 3, 3, 4, 4, 5, 5, 6; C 6, 6, 7, 7, 8, 8, 9: in cycle 6 two are done and one is issued.
  private static void oneDoneIsNotAtWork() {
    Due due = sentences.about("Promise 12: look", "6: the most INSTRUCTIONS at work at once");
    due.is("seven", Rows.ofPlain(7).look(6), 6);
    due.is("each is done ahead of the next one", Rows.ofKinds(6, 6, 6).look(6), 1);
  }

  private static void times() {
    timeOfANumberBelow0();
    timeOfANumberBehindTheLast();
    timeInAnEmptyRow();
    timeInAFullRow();
    timeOfOneThatWent();
    timeWithAWhatTooSmall();
    timeWithAWhatTooLarge();
    timeWithBothWrong();
    theGroupOfTheLastOne();
    theFirstOneIsNoSecondOne();
    aPairThatIsNotIssuedAtOnce();
  }

  private static void ofs() {
    ofANumberBelow0();
    ofANumberBehindTheLast();
    ofInAnEmptyRow();
    ofInAFullRow();
    ofOneThatWent();
    ofWithAWhatTooSmall();
    ofWithAWhatTooLarge();
    ofWithBothWrong();
    theFirstOneLiesBehindNone();
    theFirstOneIsInNoSlotAndNotRedirected();
  }

  private static void stages() {
    theStageAroundF();
    theStageAroundT();
    theStageAroundC();
    theStageInCycle0();
    theStageInACycleBelow0();
    theStageOfANumberBelow0();
    theStageOfANumberBehindTheLast();
    theStageInAnEmptyRow();
    theStageInAFullRow();
    theStageOfOneThatWent();
    theStageWithBothWrong();
  }

  private static void manies() {
    manyInAStageTooSmall();
    manyInAStageTooLarge();
    manyInACycleBelow0();
    manyInCycle0();
    manyInTheLastCycle();
    manyAroundFTAndC();
    manyInAnEmptyRow();
    manyInAFullRow();
    manyWithBothWrong();
  }

  private static void looks() {
    lookTooSmall();
    lookTooLarge();
    howManyInAnEmptyAndAFullRow();
    theLastCWithoutOne();
    cyclesWithTwoDone();
    theLongestWayFrom0();
    theLongestWayInside();
    groups();
    pairs();
    theMostAtWork();
    oneDoneIsNotAtWork();
  }

  public static void main(String[] args) {
    times();
    ofs();
    stages();
    manies();
    looks();
    sentences.end();
  }
}
