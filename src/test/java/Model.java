import java.util.ArrayList;
import java.util.Arrays;
import java.util.List;

/**
 * The document once more, written for likeness to its words and not for LANGUAGE.md: a tree of objects, suggestions
 * as objects, and exceptions that end an acting.
 */
final class Model {
    private static final class Suggestion {
        final int kind;
        final Policy from;

        Suggestion(int kind, Policy from) {
            this.kind = kind;
            this.from = from;
        }
    }

    private static final class Policy {
        int kind;
        int a;
        int b;
        int c;
        Policy left;
        Policy right;
        int level = 1;
        boolean used;
        int count;
        boolean spent;
    }

    private final List<Policy> policies = new ArrayList<>();
    private final List<Integer> notes = new ArrayList<>();
    private final int[][][] tables = new int[3][4][8];
    private final int[] totals = new int[8];
    private Policy installed;
    private boolean stopped;
    private int done;
    private int replaced;
    private int thrown;

    Model() {
        for (int[][] table : tables) {
            for (int[] row : table) {
                Arrays.fill(row, 5);
            }
        }
    }

    int table(int k, int state, int sort, int next) {
        need(k >= 0 && k <= 2 && state >= 0 && state <= 3 && sort >= 0 && sort <= 7 && next >= 0 && next <= 5);
        int was = tables[k][state][sort];
        tables[k][state][sort] = next;
        return was;
    }

    int policy(int kind, int a, int b, int c) {
        need(kind >= 0 && kind <= 14);
        Policy made = new Policy();
        made.kind = kind;
        made.a = a;
        made.b = b;
        made.c = c;
        if (kind <= 5 || kind == 7 || kind == 12) {
            need(a >= 0 && a <= 255);
        }
        if (kind == 3) {
            need(b >= 0 && b <= 99);
        }
        if (kind == 5) {
            need(b >= 0 && b <= 7);
        }
        if (kind == 6) {
            need(a >= 0 && a <= 2);
        }
        if (kind >= 8 && kind != 12) {
            made.left = at(a);
        }
        if (kind >= 8 && kind <= 12) {
            made.right = at(b);
        }
        if (kind == 14) {
            need(b == 1 || b == 4 || b == 5);
            need(c == 0 || c == 1 || c == 4 || c == 5);
        }
        Policy[] operands = {made.left, made.right};
        for (Policy operand : operands) {
            if (operand != null) {
                if (operand.used || made.left == made.right) {
                    throw new IllegalStateException();
                }
                made.level = Math.max(made.level, operand.level + 1);
            }
        }
        if (made.level == 8) {
            throw new UnsupportedOperationException();
        }
        if (policies.size() == 40) {
            throw new ArithmeticException();
        }
        for (Policy operand : operands) {
            if (operand != null) {
                operand.used = true;
            }
        }
        policies.add(made);
        return policies.size() - 1;
    }

    int install(int policy) {
        installed = at(policy);
        stopped = false;
        for (Policy p : policies) {
            p.count = 0;
        }
        return 0;
    }

    int act(int sort, int argument) {
        need(sort >= 0 && sort <= 7);
        try {
            if (stopped) {
                throw new UnsupportedOperationException();
            }
            return acting(sort, argument, 1);
        } catch (UnsupportedOperationException e) {
            stopped = true;
            thrown++;
            throw e;
        } catch (RuntimeException e) {
            thrown++;
            throw e;
        } finally {
            for (Policy p : policies) {
                p.spent = false;
            }
        }
    }

    int ask(int sort, int argument) {
        need(sort >= 0 && sort <= 7);
        return installed == null ? 0 : suggested(installed, sort, argument, false).kind;
    }

    int detail(int sort, int argument, int what) {
        need(sort >= 0 && sort <= 7 && what >= 0 && what <= 2);
        if (installed == null) {
            throw new IllegalStateException();
        }
        Suggestion now = suggested(installed, sort, argument, false);
        if (what <= 1 && now.kind == 2) {
            return what == 0 ? now.from.b : now.from.c;
        }
        if (what == 2 && now.kind == 3) {
            return now.from.b;
        }
        throw new IllegalStateException();
    }

    int total(int sort) {
        need(sort >= 0 && sort <= 7);
        return totals[sort];
    }

    int state(int policy) {
        if (policy < 0 || policy >= policies.size()) {
            return -1;
        }
        Policy p = policies.get(policy);
        return p.kind == 3 || p.kind == 6 ? p.count : -1;
    }

    int noted(int k) {
        return k < 0 || k >= 16 || k >= notes.size() ? -1 : notes.get(notes.size() - 1 - k);
    }

    int count(int what) {
        int[] counts = {policies.size(), notes.size(), done, replaced, thrown, stopped ? 1 : 0,
            policies.indexOf(installed)};
        return what >= 0 && what < counts.length ? counts[what] : -1;
    }

    private static void need(boolean asSaid) {
        if (!asSaid) {
            throw new IllegalArgumentException();
        }
    }

    private Policy at(int number) {
        need(number >= 0 && number < policies.size());
        return policies.get(number);
    }

    private static boolean in(int set, int sort) {
        return (set & 1 << sort) != 0;
    }

    private Suggestion suggested(Policy p, int s, int v, boolean acting) {
        switch (p.kind) {
            case 0:
                return new Suggestion(in(p.a, s) ? 1 : 0, p);
            case 1:
                return new Suggestion(in(p.a, s) ? 4 : 0, p);
            case 2:
                return new Suggestion(in(p.a, s) ? 5 : 0, p);
            case 3:
                return new Suggestion(!in(p.a, s) ? 0 : p.count < p.b ? 1 : 4, p);
            case 4:
                return new Suggestion(in(p.a, s) ? 3 : 0, p);
            case 5:
                return new Suggestion(in(p.a, s) && !p.spent ? 2 : 0, p);
            case 6:
                int next = tables[p.a][p.count][s];
                return new Suggestion(next <= 3 ? 1 : next == 4 ? 4 : 0, p);
            case 7:
                return new Suggestion(!in(p.a, s) ? 0 : p.b <= v && v <= p.c ? 1 : 4, p);
            case 12:
                return in(p.a, s) ? suggested(p.right, s, v, acting) : new Suggestion(0, p);
            case 13:
                Suggestion seen = suggested(p.left, s, v, acting);
                if (seen.kind != 0 && acting) {
                    notes.add(16 * seen.kind + s);
                }
                return seen;
            case 14:
                Suggestion given = suggested(p.left, s, v, acting);
                return given.kind == p.b ? new Suggestion(p.c, p) : given;
            default:
                return ofTwo(p, s, v, acting);
        }
    }

    private Suggestion ofTwo(Policy p, int s, int v, boolean acting) {
        Suggestion first = suggested(p.left, s, v, acting);
        if (p.kind == 10 && first.kind != 0) {
            return first;
        }
        if (p.kind == 11 && first.kind >= 2) {
            return first;
        }
        Suggestion second = suggested(p.right, s, v, acting);
        if (p.kind >= 10) {
            return second;
        }
        if (first.kind == second.kind) {
            return first;
        }
        Suggestion milder = first.kind < second.kind ? first : second;
        Suggestion stronger = milder == first ? second : first;
        if (p.kind == 8) {
            return stronger;
        }
        return milder.kind == 0 ? stronger : milder;
    }

    private void accept(Policy p, int s, int v) {
        if (p.kind == 3 && in(p.a, s)) {
            p.count++;
        } else if (p.kind == 6 && tables[p.a][p.count][s] <= 3) {
            p.count = tables[p.a][p.count][s];
        } else if (p.kind == 8) {
            accept(p.left, s, v);
            accept(p.right, s, v);
        } else if (p.kind >= 9 && p.kind <= 11) {
            accept(tookLeft(p, s, v) ? p.left : p.right, s, v);
        } else if (p.kind == 12 && in(p.a, s)) {
            accept(p.right, s, v);
        } else if (p.kind >= 13) {
            accept(p.left, s, v);
        }
    }

    private boolean tookLeft(Policy p, int s, int v) {
        int a = suggested(p.left, s, v, false).kind;
        int b = suggested(p.right, s, v, false).kind;
        if (p.kind == 10) {
            return a != 0;
        }
        if (p.kind == 11) {
            return a >= 2;
        }
        if (a == 0) {
            return b == 0;
        }
        return b == 0 || a <= b;
    }

    private int acting(int s, int v, int depth) {
        Suggestion now = installed == null ? new Suggestion(0, null) : suggested(installed, s, v, true);
        switch (now.kind) {
            case 2:
                now.from.spent = true;
                if (depth == 5) {
                    throw new ArithmeticException();
                }
                acting(now.from.b, now.from.c, depth + 1);
                return acting(s, v, depth);
            case 3:
                replaced++;
                return now.from.b;
            case 4:
                throw new IllegalStateException();
            case 5:
                throw new UnsupportedOperationException();
            default:
                if (installed != null) {
                    accept(installed, s, v);
                }
                done++;
                totals[s] += v;
                return totals[s];
        }
    }
}
