/** The boundary cases that the sentences under "Terms" name, seen by promises 8 and 9. */
public final class BoundaryTermsTest {
  private static final Sentences sentences = new Sentences("BoundaryTermsTest");

  private static Due term(String words) {
    return sentences.about("Terms", words);
  }

  /** What an instruction is issued at that stands behind one that is issued at 3. */
  private static int issuedBehind(int kind, int d, int nextKind, int a, int b) {
    IssueTimes x = new IssueTimes();
    x.put(kind, d, 0, 0);
    x.put(nextKind, 0, a, b);
    return x.time(1, 1);
  }

  private static IssueTimes branchAndPlain(int foreseen, boolean goes, int n) {
    IssueTimes x = new IssueTimes();
    x.branch(foreseen, goes, 0, 0);
    Rows.plain(x, n);
    return x;
  }

  // THE ROW.

  private static void aRowOf400() {
    Due due = term("THE ROW has up to 400 INSTRUCTIONS");
    IssueTimes x = new IssueTimes();
    for (int i = 0; i < 399; i++) {
      x.put(0, 0, 0, 0);
    }
    due.is("the 400th", x.put(0, 0, 0, 0), 399);
    due.is("look(0)", x.look(0), 400);
    due.is("the 401st", x.put(0, 0, 0, 0), -1);
    due.is("a branch as the 401st", x.branch(0, true, 0, 0), -1);
    due.is("the 401st by again", x.again(0, 1), -1);
    due.is("look(0)", x.look(0), 400);
  }

  private static void theFirstNumberIs0() {
    Due due = term("numbered from 0 on");
    IssueTimes x = new IssueTimes();
    due.is("the first one", x.put(3, 0, 0, 0), 0);
    due.is("of(0, 0)", x.of(0, 0), 3);
    due.is("of(1, 0)", x.of(1, 0), -1);
    due.is("the next one", x.put(4, 0, 0, 0), 1);
    due.ofAll("kinds", x, 0, 3, 4);
  }

  private static void theFirstAndTheLastKind() {
    Due due = term("0 PLAIN, 1 LOAD, 2 STORE, 3 MULTIPLY, 4 DIVIDE, 5 BRANCH, 6 SINGLE, 7 UNREADABLE");
    IssueTimes x = new IssueTimes();
    due.is("kind -1", x.put(-1, 0, 0, 0), -1);
    due.is("kind 0", x.put(0, 0, 0, 0), 0);
    due.is("kind 7", x.put(7, 0, 0, 0), 1);
    due.is("kind 8", x.put(8, 0, 0, 0), -1);
    due.ofAll("kinds", x, 0, 0, 7);
  }

  private static void register0IsNone() {
    Due due = term("0 .. 31 each, 0 being none");
    for (int kind = 0; kind < 5; kind++) {
      int apart = kind == 0 ? 1 : 0;
      due.is("D 0 of kind " + kind, issuedBehind(kind, 0, apart, 0, 0), 3);
    }
  }

  private static void register31IsOne() {
    Due due = term("0 .. 31 each, 0 being none");
    due.is("A 31 behind D 31", issuedBehind(3, 31, 0, 31, 0), 6);
    due.is("B 31 behind D 31", issuedBehind(3, 31, 0, 0, 31), 6);
    due.is("A 30 and B 30 behind D 31", issuedBehind(3, 31, 0, 30, 30), 3);
    due.is("A 1 behind D 1", issuedBehind(3, 1, 0, 1, 0), 6);
    due.is("B 1 behind D 1", issuedBehind(3, 1, 0, 0, 1), 6);
  }

  private static void anUnreadableOneHasNoRegisters() {
    Due due = term("(an UNREADABLE one has none)");
    IssueTimes x = new IssueTimes();
    x.put(3, 1, 0, 0);
    x.put(7, 0, 0, 0);
    due.is("D", x.of(1, 1), 0);
    due.is("A", x.of(1, 2), 0);
    due.is("B", x.of(1, 3), 0);
    due.is("it waits for none", x.time(1, 1), 3);
  }

  private static void anUnreadableOneFails() {
    Due due = term("it FAILS or not (an UNREADABLE one always does)");
    due.ofAll("the first one", Rows.ofKinds(7), 4, 1);
    due.ofAll("one in a slot", Rows.ofKinds(5, 7), 4, 0, 1);
    due.ofAll("behind another", Rows.ofKinds(7, 7, 0), 4, 1, 1, 0);
    for (int kind = 0; kind < 7; kind++) {
      due.ofAll("kind " + kind, Rows.ofKinds(kind), 4, 0);
    }
  }

  // Slots.

  private static void theFirstOneIsInNoSlot() {
    Due due = term("The one behind a BRANCH that does not FAIL is in its SLOT.");
    for (int kind = 0; kind < 8; kind++) {
      due.ofAll("kind " + kind, Rows.ofKinds(kind), 5, 0);
    }
  }

  private static void oneAloneIsInTheSlot() {
    Due due = term("The one behind a BRANCH that does not FAIL is in its SLOT.");
    due.ofAll("a branch and three", Rows.ofKinds(5, 0, 0, 0), 5, 0, 1, 0, 0);
    for (int kind = 0; kind < 8; kind++) {
      due.ofAll("kind " + kind, Rows.ofKinds(5, kind), 5, 0, 1);
      if (kind != 5) {
        due.ofAll("behind kind " + kind, Rows.ofKinds(kind, 0), 5, 0, 0);
      }
    }
  }

  private static void aBranchThatGoesOrNotHasASlot() {
    Due due = term("The one behind a BRANCH that does not FAIL is in its SLOT.");
    for (int foreseen = 0; foreseen < 3; foreseen++) {
      due.ofAll("goes, " + foreseen, branchAndPlain(foreseen, true, 2), 5, 0, 1, 0);
      due.ofAll("does not go, " + foreseen, branchAndPlain(foreseen, false, 2), 5, 0, 1, 0);
    }
  }

  private static void aBranchThatFailsHasNoSlot() {
    Due due = term("The one behind a BRANCH that does not FAIL is in its SLOT.");
    IssueTimes x = Rows.ofKinds(5);
    x.fail();
    Rows.plain(x, 2);
    due.ofAll("told to fail", x, 5, 0, 0, 0);
    due.ofAll("failing by its slot", Rows.ofKinds(5, 5, 0, 0), 5, 0, 1, 0, 0);
  }

  private static void aBranchInASlotFails() {
    Due due = term("A BRANCH in a SLOT always FAILS.");
    for (int k = 0; k < 6; k++) {
      IssueTimes x = new IssueTimes();
      x.branch(k / 2, k % 2 == 0, 0, 0);
      x.branch(2 - k / 2, k % 2 != 0, 0, 0);
      due.ofAll("branches " + k, x, 4, 0, 1);
    }
    due.ofAll("five branches", Rows.ofKinds(5, 5, 5, 5, 5), 4, 0, 1, 0, 1, 0);
  }

  private static void othersInASlotDoNotFail() {
    Due due = term("A BRANCH in a SLOT always FAILS.");
    for (int kind : new int[] {0, 1, 2, 3, 4, 6}) {
      due.ofAll("kind " + kind, Rows.ofKinds(5, kind), 4, 0, 0);
    }
  }

  // BEHIND and REDIRECTED.

  private static final String BEHIND = "An INSTRUCTION lies BEHIND the one ahead of it, but if that"
      + " FAILS, or is in the SLOT of a BRANCH that goes.";

  private static void behindOneThatFails() {
    Due due = term(BEHIND);
    IssueTimes x = Rows.ofPlain(1);
    x.fail();
    Rows.plain(x, 2);
    due.ofAll("the first one fails", x, 7, 0, 0, 1);
    due.ofAll("the first one is unreadable", Rows.ofKinds(7, 0, 0), 7, 0, 0, 1);
    due.ofAll("a branch in a slot", Rows.ofKinds(5, 5, 0, 0), 7, 0, 1, 0, 1);
  }

  private static void behindTheSlotOfABranchThatGoes() {
    Due due = term(BEHIND);
    for (int foreseen = 0; foreseen < 3; foreseen++) {
      due.ofAll("goes, " + foreseen, branchAndPlain(foreseen, true, 3), 7, 0, 1, 0, 1);
      due.ofAll("does not go, " + foreseen, branchAndPlain(foreseen, false, 3), 7, 0, 1, 1, 1);
    }
  }

  private static void behindABranchThatGoesAndFails() {
    Due due = term(BEHIND);
    IssueTimes x = new IssueTimes();
    x.branch(0, true, 0, 0);
    x.fail();
    Rows.plain(x, 2);
    due.ofAll("no slot, so the third one lies behind", x, 7, 0, 0, 1);
  }

  private static void behindASingleOne() {
    Due due = term(BEHIND);
    due.ofAll("a single one", Rows.ofKinds(6, 0), 7, 0, 1);
  }

  private static final String REDIRECTED = "REDIRECTED is one behind one that FAILS, or is SINGLE;"
      + " and one behind the SLOT of a BRANCH that was not foreseen, or went otherwise than it was.";

  private static void theFirstOneIsNotRedirected() {
    Due due = term(REDIRECTED);
    for (int kind = 0; kind < 8; kind++) {
      due.ofAll("kind " + kind, Rows.ofKinds(kind), 6, 0);
    }
  }

  private static void redirectedBehindOneThatFails() {
    Due due = term(REDIRECTED);
    IssueTimes x = Rows.ofPlain(1);
    x.fail();
    Rows.plain(x, 2);
    due.ofAll("the first one fails", x, 6, 0, 1, 0);
    due.ofAll("the first one is unreadable", Rows.ofKinds(7, 0, 0), 6, 0, 1, 0);
  }

  private static void redirectedBehindASingleOne() {
    Due due = term(REDIRECTED);
    due.ofAll("a single one", Rows.ofKinds(6, 0, 0), 6, 0, 1, 0);
    due.ofAll("single ones", Rows.ofKinds(6, 6, 6), 6, 0, 1, 1);
  }

  private static void redirectedBehindASlot() {
    Due due = term(REDIRECTED);
    due.ofAll("not foreseen, goes", branchAndPlain(0, true, 3), 6, 0, 0, 1, 0);
    due.ofAll("not foreseen, does not", branchAndPlain(0, false, 3), 6, 0, 0, 1, 0);
    due.ofAll("foreseen to go, goes", branchAndPlain(1, true, 3), 6, 0, 0, 0, 0);
    due.ofAll("foreseen to go, does not", branchAndPlain(1, false, 3), 6, 0, 0, 1, 0);
    due.ofAll("foreseen not to go, goes", branchAndPlain(2, true, 3), 6, 0, 0, 1, 0);
    due.ofAll("foreseen not to go, does not", branchAndPlain(2, false, 3), 6, 0, 0, 0, 0);
  }

  // Times.

  private static void timesBeginAt1() {
    Due due = term("TIMES are cycles, from 1 on.");
    for (int kind = 0; kind < 8; kind++) {
      IssueTimes x = Rows.ofKinds(kind);
      due.is("F of kind " + kind, x.time(0, 0), 1);
      due.is("T of kind " + kind, x.time(0, 1), 3);
    }
  }

  private static void aThirdOneIsNotInTheGroup() {
    Due due = term("FETCH: they are fetched in GROUPS of one or two");
    IssueTimes x = Rows.ofPlain(1);
    due.timeOfAll("one", x, 3, 1);
    x.put(0, 0, 0, 0);
    due.timeOfAll("two", x, 3, 2, 2);
    x.put(0, 0, 0, 0);
    due.timeOfAll("three", x, 3, 2, 2, 1);
    due.timeOfAll("three", x, 0, 1, 1, 2);
  }

  private static void theGroupEndsBehindOneThatFails() {
    Due due = term("if it lies BEHIND i, is not REDIRECTED");
    IssueTimes x = Rows.ofPlain(1);
    x.fail();
    Rows.plain(x, 2);
    due.timeOfAll("the first one fails", x, 3, 1, 2, 2);
  }

  private static void theGroupEndsBehindASingleOne() {
    Due due = term("if it lies BEHIND i, is not REDIRECTED");
    due.timeOfAll("a single one", Rows.ofKinds(6, 0, 0), 3, 1, 2, 2);
    due.timeOfAll("a single second one", Rows.ofKinds(0, 6, 0, 0), 3, 2, 2, 2, 2);
  }

  // The branch ends a group here, so that its slot begins the next one.
  private static void theGroupEndsBehindASlot() {
    int[][] sizes = {{0, 0, 1}, {0, 1, 1}, {1, 0, 1}, {2, 1, 1}, {2, 0, 2}};
    Due due = term("if it lies BEHIND i, is not REDIRECTED");
    for (int[] s : sizes) {
      IssueTimes x = Rows.ofPlain(1);
      x.branch(s[0], s[1] == 1, 0, 0);
      Rows.plain(x, 2);
      due.timeOfAll("foreseen " + s[0] + ", goes " + s[1], x, 3, 2, 2, s[2], s[2]);
    }
  }

  private static void theGroupEndsBehindASlotForeseenToGo() {
    Due due = term("and i is not in the SLOT of a BRANCH that is foreseen to go");
    IssueTimes x = Rows.ofPlain(1);
    x.branch(1, true, 0, 0);
    Rows.plain(x, 3);
    due.timeOfAll("rightly foreseen to go", x, 3, 2, 2, 1, 2, 2);
    due.timeOfAll("rightly foreseen to go", x, 0, 1, 1, 2, 3, 3);
  }

  private static void theSlotItselfIsInTheGroupOfItsBranch() {
    Due due = term("and i is not in the SLOT of a BRANCH that is foreseen to go");
    for (int foreseen = 0; foreseen < 3; foreseen++) {
      IssueTimes x = branchAndPlain(foreseen, true, 1);
      due.timeOfAll("foreseen " + foreseen, x, 3, 2, 2);
      due.timeOfAll("foreseen " + foreseen, x, 0, 1, 1);
    }
  }

  private static void eachGroupIsAboveTheOneBefore() {
    Due due = term("Both have the same F, which is above that of the GROUP before");
    due.timeOfAll("six", Rows.ofPlain(6), 0, 1, 1, 2, 2, 3, 3);
    IssueTimes x = new IssueTimes();
    x.put(0, 0, 0, 0);
    x.branch(1, true, 0, 0);
    x.put(0, 0, 0, 0);
    x.branch(1, true, 0, 0);
    x.put(0, 0, 0, 0);
    due.timeOfAll("a group of one", x, 0, 1, 1, 2, 3, 3);
  }

  private static final String FIVE_AHEAD =
      "and above T of the one that is five ahead of the first one of the GROUP";

  // Number 1 waits until 21, number 6 is five behind it and begins a group.
  private static void fiveAhead() {
    Due due = term(FIVE_AHEAD);
    IssueTimes x = new IssueTimes();
    x.put(4, 1, 0, 0);
    x.put(0, 0, 1, 0);
    Rows.plain(x, 5);
    due.timeOfAll("F", x, 0, 1, 1, 2, 2, 3, 3, 22);
    due.timeOfAll("T", x, 1, 3, 21, 21, 22, 22, 23, 24);
  }

  // Number 2 waits until 21: number 6 is four behind it, 7 is five behind it but second.
  private static void fourAheadAndFiveAheadOfTheSecondOne() {
    Due due = term(FIVE_AHEAD);
    IssueTimes x = new IssueTimes();
    x.put(4, 1, 0, 0);
    x.put(0, 0, 0, 0);
    x.put(0, 0, 1, 0);
    Rows.plain(x, 6);
    due.timeOfAll("F", x, 0, 1, 1, 2, 2, 3, 3, 4, 4, 22);
    due.timeOfAll("T", x, 1, 3, 3, 21, 21, 22, 22, 23, 23, 24);
  }

  // Number 4 begins a group and has but four ahead of it, who wait until 21.
  private static void fewerThanFiveAhead() {
    Due due = term(FIVE_AHEAD);
    IssueTimes x = new IssueTimes();
    x.put(4, 1, 0, 0);
    x.put(0, 0, 1, 0);
    Rows.plain(x, 3);
    due.timeOfAll("F", x, 0, 1, 1, 2, 2, 3);
  }

  private static void fetchedBehindOneThatFails() {
    Due due = term("One that is REDIRECTED behind one that FAILS or is SINGLE has F above C of that");
    int[] done = {6, 6, 6, 8, 23, 6, 6, 6};
    for (int kind = 0; kind < 8; kind++) {
      IssueTimes x = Rows.ofKinds(kind);
      x.fail();
      x.put(0, 0, 0, 0);
      due.is("C of kind " + kind, x.time(0, 2), done[kind]);
      due.is("F behind kind " + kind, x.time(1, 0), done[kind] + 1);
    }
  }

  private static void fetchedBehindASingleOne() {
    Due due = term("One that is REDIRECTED behind one that FAILS or is SINGLE has F above C of that");
    due.times("the first one is single", Rows.ofKinds(6, 0), 1, 3, 6, 7, 9, 12);
    due.times("the second one is single", Rows.ofKinds(0, 6, 0), 1, 3, 6, 1, 7, 10, 11, 13, 16);
  }

  private static void fetchedBehindASlot() {
    Due due = term("behind the SLOT of a BRANCH F is T of the BRANCH and 2, or more");
    due.times("not foreseen", branchAndPlain(0, false, 2), 1, 3, 6, 1, 4, 7, 5, 7, 10);
    due.times("rightly foreseen", branchAndPlain(2, false, 2), 1, 3, 6, 1, 4, 7, 2, 4, 7);
  }

  private static void fetchedBehindTheSlotOfALateBranch() {
    Due due = term("behind the SLOT of a BRANCH F is T of the BRANCH and 2, or more");
    IssueTimes x = new IssueTimes();
    x.put(4, 1, 0, 0);
    x.branch(0, true, 0, 1);
    Rows.plain(x, 2);
    due.timeOfAll("F", x, 0, 1, 1, 2, 23);
    due.timeOfAll("T", x, 1, 3, 21, 22, 25);
  }

  private static void fetchedBehindASlotThatFailsOrIsSingle() {
    Due due = term("behind the SLOT of a BRANCH F is T of the BRANCH and 2, or more");
    IssueTimes x = new IssueTimes();
    x.branch(0, true, 0, 0);
    x.put(6, 0, 0, 0);
    x.put(0, 0, 0, 0);
    due.timeOfAll("a single one in the slot", x, 0, 1, 1, 11);
    x.drop(2);
    x.put(0, 0, 0, 0);
    x.fail();
    x.put(0, 0, 0, 0);
    due.timeOfAll("one that fails in the slot", x, 0, 1, 1, 8);
  }

  // Issue.

  private static void issuedTwoBehindFetch() {
    Due due = term("ISSUE: T is F + 2 or more");
    due.times("the first one", Rows.ofPlain(1), 1, 3, 6);
    due.times("the third one", Rows.ofPlain(3), 1, 3, 6, 1, 3, 6, 2, 4, 7);
    due.times("a redirected one", Rows.ofKinds(7, 0), 1, 3, 6, 7, 9, 12);
  }

  private static void issuedWithTheOneBefore() {
    Due due = term("T of the one before or more; that only if these two make a PAIR");
    due.timeOfAll("a pair", Rows.ofKinds(1, 0), 1, 3, 3);
    due.timeOfAll("no pair", Rows.ofKinds(1, 1), 1, 3, 4);
  }

  private static void noThirdOneAtOnce() {
    Due due = term("and the one ahead of these two has a lesser T");
    IssueTimes x = new IssueTimes();
    x.put(3, 1, 0, 0);
    x.put(0, 0, 1, 0);
    Rows.plain(x, 4);
    due.timeOfAll("all wait until 6", x, 1, 3, 6, 6, 7, 7, 8);
  }

  private static void theFirstTwoHaveNoneAheadOfThem() {
    Due due = term("and the one ahead of these two has a lesser T");
    due.timeOfAll("two", Rows.ofPlain(2), 1, 3, 3);
    due.timeOfAll("two", Rows.ofPlain(2), 4, 0, 1);
  }

  private static void register0IsNotWaitedFor() {
    Due due = term("For A and B (but 0) T is also T of the one that wrote it last");
    due.is("A 0, B 0 behind a DIVIDE with D 0", issuedBehind(4, 0, 0, 0, 0), 3);
    due.is("A 0 behind a DIVIDE with D 1", issuedBehind(4, 1, 0, 0, 2), 3);
  }

  private static void neverWrittenIsNotWaitedFor() {
    Due due = term("For A and B (but 0) T is also T of the one that wrote it last");
    IssueTimes x = new IssueTimes();
    x.put(0, 0, 31, 1);
    due.timeOfAll("the first one reads", x, 1, 3);
    x.clear();
    x.put(4, 1, 1, 1);
    due.timeOfAll("it reads what it writes", x, 1, 3);
    x.clear();
    x.put(0, 0, 1, 0);
    x.put(4, 1, 0, 0);
    due.timeOfAll("written behind it", x, 1, 3, 3);
  }

  private static void theLastWriterIsWaitedFor() {
    Due due = term("For A and B (but 0) T is also T of the one that wrote it last");
    IssueTimes x = new IssueTimes();
    x.put(4, 1, 0, 0);
    x.put(0, 1, 0, 0);
    x.put(0, 0, 1, 0);
    due.timeOfAll("a plain one wrote it last", x, 1, 3, 3, 4);
    x.clear();
    x.put(0, 1, 0, 0);
    x.put(4, 1, 0, 0);
    x.put(0, 0, 1, 0);
    due.timeOfAll("a divide wrote it last", x, 1, 3, 3, 21);
  }

  private static void aFailingWriterIsNotWaitedFor() {
    Due due = term("of those that do not FAIL");
    IssueTimes x = new IssueTimes();
    x.put(4, 1, 0, 0);
    x.fail();
    x.put(0, 0, 1, 0);
    due.times("a failing divide", x, 1, 3, 23, 24, 26, 29);
  }

  private static void delays() {
    Due due = term("the DELAY of that, or more: 1, for a LOAD 2, MULTIPLY 3, DIVIDE 18.");
    int[] issued = {4, 5, 4, 6, 21};
    for (int kind = 0; kind < 5; kind++) {
      due.is("A behind kind " + kind, issuedBehind(kind, 9, 0, 9, 0), issued[kind]);
      due.is("B behind kind " + kind, issuedBehind(kind, 9, 0, 0, 9), issued[kind]);
    }
    IssueTimes x = new IssueTimes();
    x.branch(2, false, 9, 0);
    x.put(0, 0, 9, 0);
    due.timeOfAll("behind a branch", x, 1, 3, 4);
  }

  // The reader is fetched when what it reads is long written.
  private static void delaysLongOver() {
    Due due = term("the DELAY of that, or more: 1, for a LOAD 2, MULTIPLY 3, DIVIDE 18.");
    IssueTimes x = new IssueTimes();
    x.put(4, 1, 0, 0);
    x.put(7, 0, 0, 0);
    x.put(0, 0, 1, 0);
    due.times("behind an unreadable one", x, 1, 3, 23, 1, 3, 24, 25, 27, 30);
  }

  private static final String DIVIDES =
      "A DIVIDE is also 18 or more behind T of the DIVIDE before.";

  private static void aFirstDivide() {
    Due due = term(DIVIDES);
    due.timeOfAll("alone", Rows.ofKinds(4), 1, 3);
    due.timeOfAll("behind a plain one", Rows.ofKinds(0, 4), 1, 3, 3);
  }

  private static void aDivideBehindADivide() {
    Due due = term(DIVIDES);
    due.timeOfAll("two", Rows.ofKinds(4, 4), 1, 3, 21);
    due.timeOfAll("three", Rows.ofKinds(4, 4, 4), 1, 3, 21, 39);
    due.timeOfAll("not at once", Rows.ofKinds(4, 0, 0, 4), 1, 3, 3, 4, 21);
  }

  private static void aDivideJust18AndMoreBehind() {
    Due due = term(DIVIDES);
    IssueTimes x = new IssueTimes();
    x.put(4, 1, 0, 0);
    x.put(0, 0, 1, 0);
    x.put(4, 0, 0, 0);
    due.timeOfAll("18 behind without it", x, 1, 3, 21, 21);
    x.drop(1);
    x.put(0, 0, 0, 0);
    x.put(4, 0, 0, 0);
    due.timeOfAll("19 behind without it", x, 1, 3, 21, 21, 22);
  }

  private static void aDivideBehindOneThatWent() {
    Due due = term(DIVIDES);
    IssueTimes x = Rows.ofKinds(0, 4);
    x.drop(1);
    x.put(4, 0, 0, 0);
    due.timeOfAll("the divide before went", x, 1, 3, 3);
  }

  private static void singleOnes() {
    Due due = term("T of a SINGLE one is above C of the one before.");
    due.timeOfAll("the first one", Rows.ofKinds(6), 1, 3);
    due.timeOfAll("behind a plain one", Rows.ofKinds(0, 6), 1, 3, 7);
    due.timeOfAll("behind a multiply", Rows.ofKinds(3, 6), 1, 3, 9);
    due.timeOfAll("behind a divide", Rows.ofKinds(4, 6), 1, 3, 24);
    due.timeOfAll("behind a single one", Rows.ofKinds(6, 6), 1, 3, 9);
  }

  // Pairs.

  private static void noPairWithASingleOne() {
    Due due = term("PAIR: neither is SINGLE");
    due.timeOfAll("the second one", Rows.ofKinds(0, 6), 4, 0, 0);
    due.timeOfAll("the first one", Rows.ofKinds(6, 0), 4, 0, 0);
  }

  private static void noPairBehindABranch() {
    Due due = term("the first is no BRANCH");
    due.timeOfAll("the first one", Rows.ofKinds(5, 0), 1, 3, 4);
    due.timeOfAll("the second one", Rows.ofKinds(0, 5), 1, 3, 3);
    due.timeOfAll("both", Rows.ofKinds(5, 5), 1, 3, 4);
  }

  private static void noPairOfLoadsOrStores() {
    Due due = term("not both are LOADS or STORES");
    for (int kind = 1; kind < 3; kind++) {
      due.timeOfAll("behind a load", Rows.ofKinds(1, kind), 1, 3, 4);
      due.timeOfAll("behind a store", Rows.ofKinds(2, kind), 1, 3, 4);
      for (int other : new int[] {0, 3, 4}) {
        due.timeOfAll("the first one is " + kind, Rows.ofKinds(kind, other), 1, 3, 3);
        due.timeOfAll("the second one is " + kind, Rows.ofKinds(other, kind), 1, 3, 3);
      }
    }
  }

  private static void noPairOfMultiplyOrDivide() {
    Due due = term("not both are MULTIPLY or DIVIDE");
    due.timeOfAll("multiply, multiply", Rows.ofKinds(3, 3), 1, 3, 4);
    due.timeOfAll("multiply, divide", Rows.ofKinds(3, 4), 1, 3, 4);
    due.timeOfAll("divide, multiply", Rows.ofKinds(4, 3), 1, 3, 4);
    for (int kind = 3; kind < 5; kind++) {
      due.timeOfAll("the first one is " + kind, Rows.ofKinds(kind, 0), 1, 3, 3);
      due.timeOfAll("the second one is " + kind, Rows.ofKinds(0, kind), 1, 3, 3);
    }
  }

  private static void noPairWithAReader() {
    Due due = term("the second does not read D of the first (but 0)");
    due.is("A", issuedBehind(0, 5, 0, 5, 0), 4);
    due.is("B", issuedBehind(0, 5, 0, 0, 5), 4);
    due.is("A and B", issuedBehind(0, 5, 0, 5, 5), 4);
    due.is("neither", issuedBehind(0, 5, 0, 4, 6), 3);
    due.is("0", issuedBehind(0, 0, 0, 0, 0), 3);
  }

  private static void aPairThatWritesTheSame() {
    Due due = term("the second does not read D of the first (but 0)");
    IssueTimes x = new IssueTimes();
    x.put(0, 5, 0, 0);
    x.put(0, 5, 0, 0);
    due.timeOfAll("both write 5", x, 1, 3, 3);
    x.clear();
    x.put(0, 0, 5, 0);
    x.put(0, 5, 0, 0);
    due.timeOfAll("the first one reads what the second one writes", x, 1, 3, 3);
    x.clear();
    x.put(0, 0, 0, 0);
    x.put(0, 5, 5, 5);
    due.timeOfAll("the second one reads what it writes itself", x, 1, 3, 3);
  }

  // Done.

  private static void workOfEachKind() {
    Due due = term("DONE: C is T + 3 or more, T + 5 for MULTIPLY, T + 20 for DIVIDE");
    int[] done = {6, 6, 6, 8, 23, 6, 6, 6};
    for (int kind = 0; kind < 8; kind++) {
      due.timeOfAll("kind " + kind, Rows.ofKinds(kind), 2, done[kind]);
    }
  }

  private static void doneWithTheOneBefore() {
    Due due = term("C of the one before or more, above C of the one ahead of that");
    due.timeOfAll("a plain one behind a divide", Rows.ofKinds(4, 0), 2, 23, 23);
    due.timeOfAll("a plain one ahead of it", Rows.ofKinds(0, 4), 2, 6, 23);
  }

  private static void noThirdOneDoneAtOnce() {
    Due due = term("C of the one before or more, above C of the one ahead of that");
    due.timeOfAll("behind a divide", Rows.ofKinds(4, 0, 0, 0, 0), 2, 23, 23, 24, 24, 25);
  }

  private static void oneThatFailsIsDoneLater() {
    Due due = term("of one that FAILS above C of the one before");
    IssueTimes x = Rows.ofPlain(2);
    x.fail();
    due.timeOfAll("the second one", x, 2, 6, 7);
    x = Rows.ofKinds(4, 0, 0);
    x.fail();
    due.timeOfAll("behind a divide", x, 2, 23, 23, 24);
    x = Rows.ofPlain(3);
    x.fail();
    due.timeOfAll("late enough without it", x, 2, 6, 6, 7);
  }

  private static void theFirstOneThatFailsIsDone() {
    Due due = term("of one that FAILS above C of the one before");
    IssueTimes x = Rows.ofPlain(1);
    x.fail();
    due.timeOfAll("told to fail", x, 2, 6);
    due.timeOfAll("unreadable", Rows.ofKinds(7), 2, 6);
  }

  private static void noneIsMinus1() {
    Due due = term("`NONE = -1`: There is none.");
    due.is("NONE", IssueTimes.NONE, -1);
    due.is("put(8, 0, 0, 0)", new IssueTimes().put(8, 0, 0, 0), IssueTimes.NONE);
  }

  private static void theRow() {
    aRowOf400();
    theFirstNumberIs0();
    theFirstAndTheLastKind();
    register0IsNone();
    register31IsOne();
    anUnreadableOneHasNoRegisters();
    anUnreadableOneFails();
    noneIsMinus1();
  }

  private static void slots() {
    theFirstOneIsInNoSlot();
    oneAloneIsInTheSlot();
    aBranchThatGoesOrNotHasASlot();
    aBranchThatFailsHasNoSlot();
    aBranchInASlotFails();
    othersInASlotDoNotFail();
  }

  private static void behindAndRedirected() {
    behindOneThatFails();
    behindTheSlotOfABranchThatGoes();
    behindABranchThatGoesAndFails();
    behindASingleOne();
    theFirstOneIsNotRedirected();
    redirectedBehindOneThatFails();
    redirectedBehindASingleOne();
    redirectedBehindASlot();
  }

  private static void fetch() {
    timesBeginAt1();
    aThirdOneIsNotInTheGroup();
    theGroupEndsBehindOneThatFails();
    theGroupEndsBehindASingleOne();
    theGroupEndsBehindASlot();
    theGroupEndsBehindASlotForeseenToGo();
    theSlotItselfIsInTheGroupOfItsBranch();
    eachGroupIsAboveTheOneBefore();
    fiveAhead();
    fourAheadAndFiveAheadOfTheSecondOne();
    fewerThanFiveAhead();
    fetchedBehindOneThatFails();
    fetchedBehindASingleOne();
    fetchedBehindASlot();
    fetchedBehindTheSlotOfALateBranch();
    fetchedBehindASlotThatFailsOrIsSingle();
  }

  private static void issue() {
    issuedTwoBehindFetch();
    issuedWithTheOneBefore();
    noThirdOneAtOnce();
    theFirstTwoHaveNoneAheadOfThem();
    register0IsNotWaitedFor();
    neverWrittenIsNotWaitedFor();
    theLastWriterIsWaitedFor();
    aFailingWriterIsNotWaitedFor();
    delays();
    delaysLongOver();
    aFirstDivide();
    aDivideBehindADivide();
    aDivideJust18AndMoreBehind();
    aDivideBehindOneThatWent();
    singleOnes();
  }

  private static void pairsAndDone() {
    noPairWithASingleOne();
    noPairBehindABranch();
    noPairOfLoadsOrStores();
    noPairOfMultiplyOrDivide();
    noPairWithAReader();
    aPairThatWritesTheSame();
    workOfEachKind();
    doneWithTheOneBefore();
    noThirdOneDoneAtOnce();
    oneThatFailsIsDoneLater();
    theFirstOneThatFailsIsDone();
  }

  public static void main(String[] args) {
    theRow();
    slots();
    behindAndRedirected();
    fetch();
    issue();
    pairsAndDone();
    sentences.end();
  }
}
