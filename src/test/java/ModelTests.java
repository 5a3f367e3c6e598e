import java.util.Random;

/**
 * Long runs of calls on TideStation and on a plain model beside it. The model lets the Java machine
 * itself find what is missing, and uses its own rests and bits, so that it shares nothing with the class.
 */
public final class ModelTests {
    private static final int RUNS = 4000, CALLS = 512;

    private static final int[] NUMBERS = {0, 0, 1, -1, 2, -2, 3, -3, 5, 7, -7, 10, 15, 64, 100, 1000, -1001,
        16777215, 16777216, 16777217, 16777219, -16777217, 33554431, 33554433, 1073741825,
        Integer.MAX_VALUE, Integer.MIN_VALUE, Integer.MAX_VALUE - 64, Integer.MIN_VALUE + 1};
    private static final int[] POWERS = {0, 0, 0, 0, 1, -1, 2, -2, -3, -6, 10, 31, 32, 33, 62, 63, 64, 97, 98, 100,
        103, 104, 126, 127, 128, 129, 159, 160, -20, -30, -100, -126, -127, -128, -148, -149, -150, -151, -152,
        -159, -160};

    private static int wrong = 0;

    public static void main(String[] args) {
        for (int run = 0; run < RUNS && wrong < 20; run++) {
            check(run);
        }
        System.out.println(wrong == 0 ? "all runs are as the model's" : wrong + " answers are not the model's");
        if (wrong != 0) {
            System.exit(1);
        }
    }

    private static void check(int run) {
        Random random = new Random(1000003L * run + 17);
        TideStation tides = new TideStation();
        Model model = new Model();
        // few stations, so that the rows of one run are used together
        int stations = 1 + random.nextInt(6);
        for (int call = 0; call < CALLS / 2; call++) {
            int[] a = arguments(random, stations, call);
            long got = answer(tides, a);
            long want = answer(model, a);
            long gotWhy = tides.why();
            if (got != want || gotWhy != model.why) {
                wrong++;
                System.out.println("run " + run + ", call " + call + ": " + text(a) + " answered " + got + " (why "
                    + gotWhy + "), due is " + want + " (why " + model.why + ")");
                return;
            }
        }
        for (int what = 0; what < 6; what++) {
            if (tides.refused(what) != model.counts[what]) {
                wrong++;
                System.out.println("run " + run + ": refused(" + what + ") answered " + tides.refused(what)
                    + ", due is " + model.counts[what]);
            }
        }
    }

    private static String text(int[] a) {
        return "act " + a[0] + " " + java.util.Arrays.toString(java.util.Arrays.copyOfRange(a, 1, a.length));
    }

    /** The act's number, and five arguments, most of them such that something happens. */
    private static int[] arguments(Random random, int stations, int call) {
        int act = call < 12 ? (call % 4 == 3 ? 12 : 0) : random.nextInt(16);
        if (act <= 2 && call >= 12 && random.nextInt(4) != 0) {
            act = 4;
        }
        int station = odd(random) ? random.nextInt(9) - 1 : random.nextInt(stations);
        int[] a = {act, station, item(random), item(random), item(random), item(random)};
        if (act == 0) {
            a[2] = which(random);
            a[3] = odd(random) ? random.nextInt(30) - 3 : random.nextInt(8);
        } else if (act <= 5) {
            a[2] = which(random);
            if (act == 2) {
                a[3] = odd(random) ? random.nextInt(9) - 1 : random.nextInt(stations);
            }
            if (act == 4) {
                a[4] = number(random);
                a[5] = power(random);
            }
        } else if (act == 6) {
            a[2] = which(random);
            a[4] = which(random);
        } else if (act == 10 || act == 11) {
            a[3] = number(random);
            a[4] = power(random);
            a[5] = power(random);
        } else if (act == 13) {
            a[2] = random.nextInt(odd(random) ? 7 : 4) - (odd(random) ? 1 : 0);
            a[3] = odd(random) ? random.nextInt(6) - 2 : random.nextInt(3);
            a[4] = odd(random) ? random.nextInt(1010) - 3 : 1 + random.nextInt(1000);
        } else if (act >= 14) {
            a[2] = random.nextInt(odd(random) ? 7 : 4) - (odd(random) ? 1 : 0);
        }
        return a;
    }

    private static boolean odd(Random random) {
        return random.nextInt(12) == 0;
    }

    private static int which(Random random) {
        return random.nextInt(25) == 0 ? random.nextInt(6) - 2 : random.nextInt(3);
    }

    private static int item(Random random) {
        return odd(random) ? random.nextInt(30) - 3 : random.nextInt(5);
    }

    private static int number(Random random) {
        int kind = random.nextInt(3);
        if (kind == 0) {
            return random.nextInt();
        }
        return kind == 1 ? random.nextInt(200) - 100 : NUMBERS[random.nextInt(NUMBERS.length)];
    }

    private static int power(Random random) {
        int kind = random.nextInt(10);
        if (kind == 0) {
            return random.nextInt(330) - 165;
        }
        return kind < 5 ? random.nextInt(20) - 10 : POWERS[random.nextInt(POWERS.length)];
    }

    private static long answer(TideStation t, int[] a) {
        switch (a[0]) {
            case 0: return t.row(a[1], a[2], a[3]);
            case 1: return t.lose(a[1], a[2]);
            case 2: return t.share(a[1], a[2], a[3]);
            case 3: return t.size(a[1], a[2]);
            case 4: return t.put(a[1], a[2], a[3], a[4], a[5]);
            case 5: return t.get(a[1], a[2], a[3]);
            case 6: return t.move(a[1], a[2], a[3], a[4], a[5]);
            case 7: return t.rest(a[1], a[2], a[3]);
            case 8: return t.step(a[1], a[2], a[3]);
            case 9: return t.whole(a[1], a[2]);
            case 10: return t.phase(a[1], a[2], a[3], a[4]);
            case 11: return t.tide(a[1], a[3], a[4]);
            case 12: return t.rack(a[1], (a[2] & 1) == 0);
            case 13: return t.hang(a[1], a[2], a[3], a[4]);
            case 14: return t.read(a[1], a[2], a[3]);
            default: return t.stepOf(a[1], a[2]);
        }
    }

    private static long answer(Model m, int[] a) {
        int reason;
        try {
            long result = m.act(a);
            m.why = 0;
            return result;
        } catch (Refusal e) {
            reason = e.reason;
        } catch (NullPointerException e) {
            reason = TideStation.NULL;
        } catch (ArrayIndexOutOfBoundsException e) {
            reason = TideStation.INDEX;
        } catch (NegativeArraySizeException e) {
            reason = TideStation.SIZE;
        } catch (ClassCastException e) {
            reason = TideStation.CAST;
        } catch (ArrayStoreException e) {
            reason = TideStation.STORE;
        }
        m.why = reason;
        int[] order = {TideStation.NULL, TideStation.INDEX, TideStation.SIZE, TideStation.CAST, TideStation.STORE,
            TideStation.NONE};
        for (int k = 0; k < order.length; k++) {
            m.counts[k] += order[k] == reason ? 1 : 0;
        }
        boolean anyNumber = a[0] == 5 || a[0] == 7 || a[0] >= 9 && a[0] <= 11 || a[0] == 14;
        return anyNumber ? 0 : reason;
    }

    private static final class Refusal extends RuntimeException {
        private static final long serialVersionUID = 1;
        private final int reason;

        Refusal(int reason) {
            this.reason = reason;
        }
    }

    private static class Plain {
        int reads(float x) {
            return (int) x;
        }
    }

    private static final class Stepped extends Plain {
        private final int step;

        Stepped(int step) {
            this.step = step;
        }

        @Override
        int reads(float x) {
            return Float.isInfinite(x) ? (int) x : (int) (x - x % (step / 64f));
        }
    }

    private static final class Model {
        private final float[][] readings = new float[6][];
        private final double[][] periods = new double[6][];
        private final long[][] weights = new long[6][];
        private final Plain[][] racks = new Plain[6][];
        private final int[] counts = new int[6];
        private int why = 0;

        private long act(int[] a) {
            need(a[1] >= 0 && a[1] <= 5);
            int s = a[1];
            switch (a[0]) {
                case 0:
                    need(isWhich(a[2]) && a[3] <= 24);
                    return set(s, a[2], a[2] == 0 ? (Object) new float[a[3]]
                        : a[2] == 1 ? (Object) new double[a[3]] : new long[a[3]]);
                case 1:
                    need(isWhich(a[2]));
                    long was = rowOf(s, a[2]) == null ? 0 : 1;
                    set(s, a[2], null);
                    return was;
                case 2:
                    need(isWhich(a[2]) && a[3] >= 0 && a[3] <= 5);
                    return set(s, a[2], rowOf(a[3], a[2]));
                case 3:
                    need(isWhich(a[2]));
                    return a[2] == 0 ? readings[s].length : a[2] == 1 ? periods[s].length : weights[s].length;
                case 4:
                    need(isWhich(a[2]) && isPower(a[5]));
                    return put(s, a[2], a[3], Math.scalb((double) a[4], a[5]));
                case 5:
                    need(isWhich(a[2]));
                    return a[2] == 0 ? Float.floatToRawIntBits(readings[s][a[3]])
                        : a[2] == 1 ? Double.doubleToRawLongBits(periods[s][a[3]]) : weights[s][a[3]];
                case 6:
                    need(isWhich(a[2]) && isWhich(a[4]));
                    return move(s, a[2], a[3], a[4], a[5]);
                case 7:
                    return Float.floatToRawIntBits(floatRest(readings[s][a[2]], readings[s][a[3]]));
                case 8:
                    readings[s][a[2]] = readings[s][a[2]] - floatRest(readings[s][a[2]], readings[s][a[3]]);
                    return 1;
                case 9:
                    return (long) readings[s][a[2]];
                case 10:
                    need(isPower(a[4]));
                    return Double.doubleToRawLongBits(phase(Math.scalb((double) a[3], a[4]), periods[s][a[2]]));
                case 11:
                    need(isPower(a[4]));
                    return Double.doubleToRawLongBits(tide(s, Math.scalb((double) a[3], a[4])));
                case 12:
                    racks[s] = (a[2] & 1) == 0 ? new Stepped[4] : new Plain[4];
                    return 1;
                case 13:
                    need(a[3] >= 0 && a[3] <= 2 && (a[3] != 2 || a[4] >= 1 && a[4] <= 1000));
                    racks[s][a[2]] = a[3] == 0 ? null : a[3] == 1 ? new Plain() : new Stepped(a[4]);
                    return 1;
                case 14:
                    Plain meter = racks[s][a[2]];
                    float x = readings[s][a[3]];
                    return meter.reads(x);
                default:
                    return ((Stepped) racks[s][a[2]]).step;
            }
        }

        private static void need(boolean told) {
            if (!told) {
                throw new Refusal(TideStation.BAD);
            }
        }

        private static boolean isWhich(int which) {
            return which >= 0 && which <= 2;
        }

        private static boolean isPower(int p) {
            return Math.abs(p) <= 160;
        }

        private Object rowOf(int s, int which) {
            return which == 0 ? readings[s] : which == 1 ? periods[s] : (Object) weights[s];
        }

        private long set(int s, int which, Object row) {
            if (which == 0) {
                readings[s] = (float[]) row;
            } else if (which == 1) {
                periods[s] = (double[]) row;
            } else {
                weights[s] = (long[]) row;
            }
            return 1;
        }

        private long put(int s, int which, int i, double number) {
            if (which == 0) {
                readings[s][i] = (float) number;
            } else if (which == 1) {
                periods[s][i] = number;
            } else {
                weights[s][i] = (long) number;
            }
            return 1;
        }

        private long move(int s, int from, int i, int to, int j) {
            if (from == 0) {
                float x = readings[s][i];
                return put(s, to, j, x);
            }
            if (from == 1) {
                return put(s, to, j, periods[s][i]);
            }
            long x = weights[s][i];
            if (to == 0) {
                readings[s][j] = x;
            } else if (to == 1) {
                periods[s][j] = x;
            } else {
                weights[s][j] = x;
            }
            return 1;
        }

        private static float floatRest(float x, float y) {
            if (y == 0 || Float.isInfinite(x)) {
                throw new Refusal(TideStation.NONE);
            }
            return x % y;
        }

        private static double phase(double x, double y) {
            if (y == 0) {
                throw new Refusal(TideStation.NONE);
            }
            return x % y;
        }

        private double tide(int s, double time) {
            double sum = 0.0;
            for (int k = 0; k < periods[s].length; k++) {
                double w = Math.abs(periods[s][k]);
                if (w != 0 && !Double.isInfinite(w)) {
                    double r = time % w;
                    r = r < 0 ? r + w : r;
                    sum += (w - r < r ? w - r : r) * weights[s][k];
                }
            }
            return sum;
        }
    }
}
