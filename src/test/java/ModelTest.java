/** Runs of up to 512 calls, each answer held against the one of Model. All promises. */
public final class ModelTest {
  private final Due due = new Due();
  private long seed;
  private IssueTimes x;
  private Model model;

  private int below(int bound) {
    seed = seed * 6364136223846793005L + 1442695040888963407L;
    return (int) ((seed >>> 33) % bound);
  }

  private boolean chance(int percent) {
    return below(100) < percent;
  }

  private int oddNumber() {
    int[] odd = {-1, -2, 32, 8, 400, 401, 399, Integer.MAX_VALUE, Integer.MIN_VALUE, 5, 7};
    return odd[below(odd.length)];
  }

  private int register(int registers) {
    return chance(1) ? oddNumber() : below(registers);
  }

  private int index() {
    return chance(4) ? oddNumber() : below(model.look(0) + 1);
  }

  private void putOne(int registers, int branches) {
    if (chance(branches)) {
      int foreseen = chance(2) ? oddNumber() : below(3);
      boolean goes = chance(50);
      int d = chance(30) ? register(registers) : 0;
      int a = register(registers);
      due.is("branch(" + foreseen + ", " + goes + ", " + d + ", " + a + ")",
          x.branch(foreseen, goes, d, a), model.branch(foreseen, goes, d, a));
      return;
    }
    int kind = chance(2) ? oddNumber() : chance(80) ? below(5) : below(8);
    boolean bare = kind == 7 && chance(90);
    int d = bare ? 0 : register(registers);
    int a = bare ? 0 : register(registers);
    int b = bare ? 0 : register(registers);
    due.is("put(" + kind + ", " + d + ", " + a + ", " + b + ")",
        x.put(kind, d, a, b), model.put(kind, d, a, b));
  }

  private void changeMore() {
    int i = index();
    switch (below(8)) {
      case 0:
      case 1:
      case 2:
        due.is("fail()", x.fail(), model.fail());
        break;
      case 3:
      case 4:
        int n = chance(20) ? oddNumber() : below(6);
        due.is("drop(" + n + ")", x.drop(n), model.drop(n));
        break;
      case 5:
      case 6:
        int m = chance(20) ? oddNumber() : below(40);
        due.is("again(" + i + ", " + m + ")", x.again(i, m), model.again(i, m));
        break;
      default:
        if (chance(5)) {
          x.clear();
          model.clear();
        }
    }
  }

  private void ask() {
    int i = index();
    int what = chance(5) ? oddNumber() : below(9);
    int cycle = chance(5) ? oddNumber() : below(model.look(1) + 3);
    switch (below(5)) {
      case 0:
        due.is("time(" + i + ", " + what + ")", x.time(i, what), model.time(i, what));
        break;
      case 1:
        due.is("of(" + i + ", " + what + ")", x.of(i, what), model.of(i, what));
        break;
      case 2:
        due.is("stage(" + i + ", " + cycle + ")", x.stage(i, cycle), model.stage(i, cycle));
        break;
      case 3:
        int stage = chance(5) ? oddNumber() : below(5);
        due.is("many(" + stage + ", " + cycle + ")", x.many(stage, cycle), model.many(stage, cycle));
        break;
      default:
        due.is("look(" + what + ")", x.look(what), model.look(what));
    }
  }

  private void compareAll() {
    for (int i = 0; i < model.look(0); i++) {
      for (int what = 0; what < 8; what++) {
        due.is("at the end time(" + i + ", " + what + ")", x.time(i, what), model.time(i, what));
        due.is("at the end of(" + i + ", " + what + ")", x.of(i, what), model.of(i, what));
      }
    }
    for (int which = 0; which < 8; which++) {
      due.is("at the end look(" + which + ")", x.look(which), model.look(which));
    }
  }

  private void run(int number) {
    seed = number * 7919L + 13;
    x = new IssueTimes();
    model = new Model();
    int registers = new int[] {1, 3, 6, 12, 32}[below(5)];
    int branches = new int[] {5, 15, 30, 60}[below(4)];
    int asked = new int[] {0, 10, 50}[below(3)];
    int changed = new int[] {0, 2, 10, 30}[below(4)];
    for (int call = 0; call < 500; call++) {
      if (chance(asked)) {
        ask();
      } else if (chance(changed)) {
        changeMore();
      } else {
        putOne(registers, branches);
      }
    }
    compareAll();
  }

  public static void main(String[] args) {
    ModelTest test = new ModelTest();
    for (int number = 0; number < 200; number++) {
      test.run(number);
    }
    test.due.end("ModelTest");
  }
}
