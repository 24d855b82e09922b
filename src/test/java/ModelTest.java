import java.util.ArrayList;
import java.util.Comparator;
import java.util.List;
import java.util.NoSuchElementException;
import java.util.Random;

/** Long runs of mixed calls, also wrong ones, against a second board that is written another way. */
public final class ModelTest {
    private static final int BOARDS = 4000;
    private static final int CALLS = 512;
    private static final double[] LEVELS = {
        -1000, 1000, 0.0, -0.0, 1, Math.nextUp(1.0), 2, 3, -1, Double.NaN, 1000.0000001, -1000.0000001,
        Double.POSITIVE_INFINITY, Double.NEGATIVE_INFINITY};
    private static final float[] WINDS = {
        0.0f, -0.0f, 200, 1, 2, 3, 0.5f, 0.1f, 150, Float.NaN, 200.00002f, -Float.MIN_VALUE, Float.POSITIVE_INFINITY,
        Float.NEGATIVE_INFINITY};

    /** The document once more, with null for OUT. */
    private static final class Model {
        final List<List<List<Double>>> strips = new ArrayList<>();
        final Double[][] marks = new Double[6][3];
        final Double[] probes = new Double[2];
        boolean open = false;
        int moves = 0;

        Model() {
            for (int g = 0; g < 6; g++) {
                strips.add(List.of(new ArrayList<>(), new ArrayList<>()));
            }
        }

        static void legal(boolean argument) {
            if (!argument) {
                throw new IllegalArgumentException();
            }
        }

        static boolean isLevel(double v) {
            return -1000 <= v && v <= 1000;
        }

        static boolean isWind(double v) {
            return 0 <= v && v <= 200;
        }

        static boolean within(int i, int bound) {
            return 0 <= i && i < bound;
        }

        List<Double> strip(int g, int what) {
            return strips.get(g).get(what);
        }

        Double latest(int g, int what) {
            List<Double> s = strip(g, what);
            return s.isEmpty() ? null : s.get(s.size() - 1);
        }

        static boolean rel(Double a, Double b, int relation) {
            if (a == null || b == null) {
                return relation == 5;
            }
            double x = a;
            double y = b;
            return new boolean[] {x < y, x <= y, x > y, x >= y, x == y, x != y}[relation];
        }

        Object add(int g, int what, Double v) {
            List<Double> s = strip(g, what);
            if (s.size() == 12) {
                throw new IllegalStateException();
            }
            s.add(v);
            return s.size();
        }

        Object set(int g, int mark, Double v) {
            boolean was = marks[g][mark] != null;
            marks[g][mark] = v;
            return was;
        }

        Object probe(int what, Double v, int relation) {
            probes[what] = v;
            int n = 0;
            for (int g = 0; g < 6; g++) {
                n += rel(latest(g, what), v, relation) ? 1 : 0;
            }
            return n;
        }

        Object clear(int g) {
            int n = strip(g, 0).size() + strip(g, 1).size();
            strip(g, 0).clear();
            strip(g, 1).clear();
            return n;
        }

        Object run(int g, int what, int relation, boolean back) {
            List<Double> s = new ArrayList<>(strip(g, what));
            if (back) {
                java.util.Collections.reverse(s);
            }
            int n = 0;
            for (Double v : s) {
                if (rel(v, probes[what], relation) == back) {
                    return n;
                }
                n++;
            }
            return n;
        }

        Object count(int g, int what, int relation, boolean not) {
            return (int) strip(g, what).stream().filter(v -> rel(v, probes[what], relation) != not).count();
        }

        Object pick(int g, int h, int what, int relation) {
            return rel(latest(g, what), latest(h, what), relation) ? g
                : rel(latest(h, what), latest(g, what), relation) ? h : -1;
        }

        Object stand(int g) {
            Double v = latest(g, 0);
            Double low = marks[g][0];
            Double high = marks[g][1];
            Double w = latest(g, 1);
            Double gale = marks[g][2];
            int stand = strip(g, 0).isEmpty() ? 0 : v == null ? 1 : rel(v, low, 0) ? 2 : rel(v, high, 2) ? 3
                : rel(v, low, 4) || rel(v, high, 4) ? 4 : low == null && high == null ? 5 : 6;
            int more = rel(w, gale, 0) ? 10 : rel(w, gale, 3) ? 20 : gale != null && w == null ? 30 : 0;
            return stand + more;
        }

        Object order(int k) {
            List<Integer> gauges = new ArrayList<>(List.of(0, 1, 2, 3, 4, 5));
            // Adding 0.0 makes one zero of both: Double.compare would tell them apart.
            Comparator<Integer> byLatest = Comparator.comparing(
                (Integer g) -> latest(g, 0) == null ? Double.NEGATIVE_INFINITY : latest(g, 0) + 0.0);
            gauges.sort(byLatest.reversed());
            return gauges.get(k);
        }

        double extreme(int g, int what, int sign) {
            return sign * strip(g, what).stream().filter(v -> v != null).mapToDouble(v -> sign * v).max()
                .orElseThrow(NoSuchElementException::new);
        }

        Object same(int g, int h) {
            List<Double> a = strip(g, 0);
            List<Double> b = strip(h, 0);
            if (a.size() != b.size()) {
                return 0;
            }
            boolean equal = true;
            boolean alike = true;
            for (int i = 0; i < a.size(); i++) {
                boolean here = rel(a.get(i), b.get(i), 4);
                equal &= here;
                alike &= here || a.get(i) == null && b.get(i) == null;
            }
            return equal ? 2 : alike ? 1 : 0;
        }

        Object move(boolean opens) {
            if (opens == open) {
                throw new IllegalStateException();
            }
            Double inside = latest(0, 0);
            Double outside = latest(1, 0);
            if (opens ? !rel(inside, outside, 2) : rel(inside, marks[0][0], 2)) {
                throw new UnsupportedOperationException();
            }
            boolean gale = marks[1][2] != null && !rel(latest(1, 1), marks[1][2], 0);
            boolean high = marks[0][1] != null && outside != null && rel(outside, marks[0][1], 1);
            if (opens ? gale : high) {
                throw new ArithmeticException();
            }
            open = opens;
            return ++moves;
        }
    }

    private final Random random = new Random(20261118);
    private final Check check = new Check();
    private HarbourBoard x;
    private Model m;
    private int gauges;

    public static void main(String[] args) {
        ModelTest test = new ModelTest();
        for (int i = 0; i < BOARDS; i++) {
            test.board(i);
        }
        test.check.end("ModelTest");
    }

    private void board(int number) {
        x = new HarbourBoard();
        m = new Model();
        // Few gauges on some boards, so that strips get full and the gate's two get much.
        gauges = 2 + random.nextInt(5);
        for (int i = 0; i < CALLS; i++) {
            call("board " + number + ", call " + i + ": ");
        }
    }

    private int index(int bound) {
        int often = Math.min(bound, gauges);
        int r = random.nextInt(60);
        return r == 0 ? -1 : r == 1 ? bound : r == 2 ? random.nextInt() : random.nextInt(bound == 6 ? often : bound);
    }

    private double level() {
        return LEVELS[random.nextInt(random.nextInt(5) == 0 ? LEVELS.length : 9)];
    }

    private float wind() {
        return WINDS[random.nextInt(random.nextInt(5) == 0 ? WINDS.length : 9)];
    }

    private void both(String name, Check.Call due, Check.Call made) {
        check.due(name, plain(Check.outcome(due)), plain(Check.outcome(made)));
    }

    /** The document does not tell the two zeros apart. */
    private static Object plain(Object answer) {
        if (answer instanceof Double d) {
            return d + 0.0;
        }
        return answer instanceof Float f ? (Object) (f + 0.0f) : answer;
    }

    private void call(String where) {
        int kind = random.nextInt(30);
        if (kind < 16) {
            change(where, kind);
        } else {
            look(where, kind);
        }
    }

    private void change(String where, int kind) {
        int g = index(6);
        int what = index(2);
        int mark = index(3);
        double v = level();
        float w = wind();
        boolean flag = random.nextBoolean();
        boolean noGauge = !Model.within(g, 6);
        switch (kind) {
            case 0, 1, 2 -> both(where + "level(" + g + ", " + v + ")", () -> {
                Model.legal(!noGauge && Model.isLevel(v));
                return m.add(g, 0, v);
            }, () -> x.level(g, v));
            case 3, 4 -> both(where + "wind(" + g + ", " + w + ")", () -> {
                Model.legal(!noGauge && Model.isWind(w));
                return m.add(g, 1, (double) w);
            }, () -> x.wind(g, w));
            case 5 -> both(where + "out(" + g + ", " + what + ")", () -> {
                Model.legal(!noGauge && Model.within(what, 2));
                return m.add(g, what, null);
            }, () -> x.out(g, what));
            case 6 -> {
                if (random.nextInt(3) == 0) {
                    both(where + "clear(" + g + ")", () -> {
                        Model.legal(!noGauge);
                        return m.clear(g);
                    }, () -> x.clear(g));
                }
            }
            case 7 -> both(where + "mark(" + g + ", " + mark + ", " + v + ")", () -> {
                Model.legal(!noGauge && Model.within(mark, 2) && Model.isLevel(v));
                return m.set(g, mark, v);
            }, () -> x.mark(g, mark, v));
            case 8 -> both(where + "gale(" + g + ", " + w + ")", () -> {
                Model.legal(!noGauge && Model.isWind(w));
                return m.set(g, 2, (double) w);
            }, () -> x.gale(g, w));
            case 9 -> both(where + "lift(" + g + ", " + mark + ")", () -> {
                Model.legal(!noGauge && Model.within(mark, 3));
                return m.set(g, mark, null);
            }, () -> x.lift(g, mark));
            case 10 -> both(where + "probe(" + v + ")", () -> {
                Model.legal(Model.isLevel(v));
                return m.probe(0, v, 4);
            }, () -> x.probe(v));
            case 11 -> both(where + "probeWind(" + w + ")", () -> {
                Model.legal(Model.isWind(w));
                return m.probe(1, (double) w, 4);
            }, () -> x.probeWind(w));
            case 12 -> both(where + "probeOut(" + what + ")", () -> {
                Model.legal(Model.within(what, 2));
                return m.probe(what, null, 5);
            }, () -> x.probeOut(what));
            default -> both(where + "move(" + flag + ")", () -> m.move(flag), () -> x.move(flag));
        }
    }

    private void look(String where, int kind) {
        int g = index(6);
        int h = index(6);
        int what = index(2);
        int relation = index(6);
        boolean flag = random.nextBoolean();
        boolean one = Model.within(g, 6);
        boolean two = one && Model.within(h, 6);
        boolean named = Model.within(what, 2) && Model.within(relation, 6);
        String strip = "(" + g + ", " + what + ", " + relation + ", " + flag + ")";
        String pair = "(" + g + ", " + h + ", " + what + ", " + relation + ")";
        switch (kind) {
            case 16, 17 -> both(where + "run" + strip, () -> {
                Model.legal(one && named);
                return m.run(g, what, relation, flag);
            }, () -> x.run(g, what, relation, flag));
            case 18, 19 -> both(where + "count" + strip, () -> {
                Model.legal(one && named);
                return m.count(g, what, relation, flag);
            }, () -> x.count(g, what, relation, flag));
            case 20 -> both(where + "holds" + pair, () -> {
                Model.legal(two && named);
                return Model.rel(m.latest(g, what), m.latest(h, what), relation);
            }, () -> x.holds(g, h, what, relation));
            case 21 -> both(where + "pick" + pair, () -> {
                Model.legal(two && named);
                return m.pick(g, h, what, relation);
            }, () -> x.pick(g, h, what, relation));
            case 22, 23 -> both(where + "stand(" + g + ")", () -> {
                Model.legal(one);
                return m.stand(g);
            }, () -> x.stand(g));
            case 24, 25 -> both(where + "order(" + g + ")", () -> {
                Model.legal(one);
                return m.order(g);
            }, () -> x.order(g));
            case 26 -> both(where + "highest(" + g + ")", () -> {
                Model.legal(one);
                return m.extreme(g, 0, 1);
            }, () -> x.highest(g));
            case 27 -> both(where + "calmest(" + g + ")", () -> {
                Model.legal(one);
                return (float) m.extreme(g, 1, -1);
            }, () -> x.calmest(g));
            case 28 -> both(where + "same(" + g + ", " + h + ")", () -> {
                Model.legal(two);
                return m.same(g, h);
            }, () -> x.same(g, h));
            default -> both(where + "size(" + g + ", " + what + ")", () -> {
                Model.legal(one && Model.within(what, 2));
                return m.strip(g, what).size();
            }, () -> x.size(g, what));
        }
    }
}
