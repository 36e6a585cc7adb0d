import java.util.Random;

/**
 * That what is real lies between what the class holds LOW and HIGH. A row of flows and pressures in doubles is tried
 * by the document's equations, which only one row fulfils, before it is compared.
 */
public final class RealWaterTest {
  private static final double SCALE = 1L << 30;
  private static int wrong = 0, asked = 0;

  private final Random random;
  private final SprinklerHouse house = new SprinklerHouse();
  private final int supplied;
  private int ends = 1;
  // by ends: 0 behind the SUPPLY, PIPE + 1 behind a PIPE
  private final int[] from = new int[25], drags = new int[25], factors = new int[25];
  private final boolean[] shut = new boolean[25];
  private final double[] conducts = new double[25], pressures = new double[25], flows = new double[25];

  private RealWaterTest(long seed) {
    random = new Random(seed);
    supplied = 1 + random.nextInt(random.nextBoolean() ? 100 : 100000);
    drags[0] = random.nextInt(4001);
    house.supply(supplied, drags[0]);
    int[] sizes = new int[6];
    for (int i = 0; i < 6; i++) { sizes[i] = 1 + random.nextInt(400); house.size(sizes[i], 1); }
    int tries = 1 + random.nextInt(40);
    for (int i = 0; i < tries; i++) {
      int begin = random.nextInt(3) == 0 ? ends - 1 : random.nextInt(ends);
      int length = 1 + random.nextInt(10), size = random.nextInt(6);
      if (house.pipe(begin - 1, length, size) < 0) continue;
      from[ends] = begin;
      drags[ends] = length * sizes[size];
      if (random.nextInt(3) > 0) addHead();
      shut[ends] = random.nextInt(15) == 0;
      house.shut(ends - 1, shut[ends]);
      ends++;
    }
  }

  private void addHead() {
    int factor = 1 + random.nextInt(200), clog = random.nextInt(3) == 0 ? random.nextInt(101) : 0;
    house.head(ends - 1, factor, 0);
    house.clog(ends - 1, clog);
    if (random.nextInt(4) == 0) return;
    house.open(ends - 1, true);
    factors[ends] = factor * (100 - clog) / 100;
  }

  private double endConduct(int end) {
    double g = factors[end];
    for (int i = end + 1; i < ends; i++) if (from[i] == end) g += conducts[i];
    return g;
  }

  private void solve() {
    for (int end = ends - 1; end >= 0; end--) {
      double g = endConduct(end);
      conducts[end] = shut[end] ? 0 : g / Math.sqrt(1 + drags[end] * g * g / SCALE);
    }
    for (int end = 0; end < ends; end++) {
      double before = end == 0 ? supplied : pressures[from[end]], g = endConduct(end);
      pressures[end] = shut[end] ? 0 : before / (1 + drags[end] * g * g / SCALE);
      flows[end] = conducts[end] * Math.sqrt(before);
    }
  }

  private void fulfil() {
    for (int end = 0; end < ends; end++) {
      double before = end == 0 ? supplied : pressures[from[end]];
      double out = factors[end] * Math.sqrt(pressures[end]);
      for (int i = end + 1; i < ends; i++) if (from[i] == end) out += flows[i];
      equal("flows at end " + end, flows[end], out);
      if (!shut[end]) equal("loss to end " + end, before - pressures[end], drags[end] * out * out / SCALE);
    }
  }

  private static void equal(String what, double a, double b) {
    if (Math.abs(a - b) <= 1e-8 * (1 + Math.abs(a))) return;
    wrong++;
    System.out.println("the test's own " + what + ": " + a + " and " + b);
  }

  private static void within(String what, long low, double real, long high) {
    asked++;
    double slack = 1e-9 * (1 + real);
    if (low / 1024.0 <= real + slack && real - slack <= high / 1024.0) return;
    wrong++;
    System.out.println(what + " is " + real * 1024 + ", held between " + low + " and " + high);
  }

  private void compare() {
    double all = 0;
    for (int end = 0; end < ends; end++) {
      int pipe = end - 1;
      within("conduct(" + pipe + ")", house.conduct(pipe, 0), conducts[end], house.conduct(pipe, 1));
      within("pressure(" + pipe + ")", house.pressure(pipe, 0), pressures[end], house.pressure(pipe, 1));
      if (house.about(pipe, 4) != 1) continue;
      double flow = factors[end] * Math.sqrt(pressures[end]);
      within("flow(" + pipe + ")", house.flow(pipe, 0), flow, house.flow(pipe, 1));
      all += flow;
    }
    within("total", house.total(0), all, house.total(1));
  }

  public static void main(String[] args) {
    for (long seed = 0; seed < 3000; seed++) {
      RealWaterTest test = new RealWaterTest(seed);
      test.solve();
      test.fulfil();
      test.compare();
    }
    System.out.println(asked + " numbers asked for, " + wrong + " are not held");
    if (wrong != 0) System.exit(1);
  }
}
