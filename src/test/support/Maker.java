import java.util.ArrayList;
import java.util.List;
import java.util.function.Supplier;

/**
 * Makes the same house again and again, and asks it for all that can be asked for. Each house bears 512 calls only, so
 * the questions are put to many houses, and those that change something each to a house of its own.
 */
final class Maker {
    private static final int NONE = -1;
    /** Calls that a question may need, with some room. */
    private static final int DEAREST = 100;

    private interface Question {
        String ask(House x);
    }

    private final Supplier<House> make;
    private final List<String> names = new ArrayList<>();
    private final List<Question> questions = new ArrayList<>();
    private final List<Boolean> alone = new ArrayList<>();
    private final List<String> answers = new ArrayList<>();
    private final List<Boolean> starts = new ArrayList<>();

    Maker(Supplier<House> make) {
        this.make = make;
        plan();
        askAtFirst();
    }

    House house() {
        return make.get();
    }

    /** Empty, if a call answers as it must and each question is answered as without it. */
    String changedBy(Edges.Call call, long want) {
        House x = null;
        for (int i = 0; i < questions.size(); i++) {
            if (starts.get(i)) {
                x = make.get();
                long got = call.of(x);
                if (got != want) {
                    return "answered " + got + ", due is " + want;
                }
            }
            String found = questions.get(i).ask(x);
            if (!found.equals(answers.get(i))) {
                return "changed " + names.get(i) + " from " + answers.get(i) + " to " + found;
            }
        }
        return "";
    }

    private void askAtFirst() {
        House x = make.get();
        if (x.left() < 2 * DEAREST) {
            throw new IllegalStateException("the house leaves no calls for questions");
        }
        boolean fresh = true;
        for (int i = 0; i < questions.size(); i++) {
            boolean start = fresh || alone.get(i) || x.left() < DEAREST;
            if (start) {
                x = make.get();
            }
            starts.add(start);
            answers.add(questions.get(i).ask(x));
            fresh = alone.get(i);
        }
    }

    private void add(String name, Question question) {
        names.add(name);
        questions.add(question);
        alone.add(false);
    }
    private void addAlone(String name, Question question) {
        names.add(name);
        questions.add(question);
        alone.add(true);
    }
    private static String told(House x, int answered) {
        return " " + answered + " " + x.above() + "/" + x.below();
    }

    private void plan() {
        House x = make.get();
        int lenses = x.count(0);
        int moves = x.count(1);
        int bytes = x.count(2);
        int tolerances = x.count(4);
        int seen = x.count(6);
        int[] surfaces = new int[lenses];
        for (int l = 0; l < lenses; l++) {
            surfaces[l] = x.told(l, 0);
        }
        add("the fraction", h -> h.above() + "/" + h.below());
        for (int what = 0; what < 9; what++) {
            int w = what;
            add("count " + w, h -> "" + h.count(w));
        }
        planRays();
        for (int l = 0; l < lenses; l++) {
            planLens(l, surfaces[l], lenses);
        }
        for (int m = 0; m < moves; m++) {
            int move = m;
            add("move " + m, h -> h.move(move, 0) + " " + h.move(move, 1) + " " + h.move(move, 2) + " " + h.move(move, 3)
                    + " " + h.move(move, 4));
        }
        for (int b = 0; b < bytes; b++) {
            int at = b;
            add("byte " + b, h -> "" + h.disk(at));
        }
        if (seen != NONE) {
            planView("the view", surfaces[seen]);
            for (int t = 0; t < tolerances; t++) {
                for (int k = 0; k < 4; k++) {
                    int tolerance = t;
                    int merit = k;
                    add("worse " + t, h -> told(h, h.worse(tolerance, 0, merit)) + told(h, h.worse(tolerance, 1, merit)));
                }
            }
            planRounds(seen);
        }
        planOthers(lenses, surfaces);
    }

    private void planRays() {
        for (int s = -1; s < 12; s++) {
            int surface = s;
            add("the ray at " + s, h -> {
                StringBuilder out = new StringBuilder();
                for (int what = 0; what < 7; what++) {
                    out.append(h.at(surface, what)).append(' ');
                }
                return out.toString();
            });
        }
        for (int what = 0; what < 6; what++) {
            int w = what;
            add("the spot", h -> "" + h.spread(w));
        }
    }

    private void planLens(int l, int surfaces, int lenses) {
        for (int what = 0; what < 5; what++) {
            int w = what;
            add("lens " + l, h -> "" + h.told(l, w));
        }
        for (int s = 0; s < surfaces; s++) {
            for (int sort = 0; sort < 4; sort++) {
                int surface = s;
                int k = sort;
                add("datum " + l + " " + s + " " + k, h -> told(h, h.datum(l, surface, k)) + " " + h.how(l, surface, k));
            }
        }
        for (int sort = 4; sort < 7; sort++) {
            int k = sort;
            add("datum " + l + " " + k, h -> told(h, h.datum(l, NONE, k)));
        }
        for (int other = 0; other < lenses; other++) {
            int o = other;
            add("same", h -> "" + h.same(l, o));
        }
    }

    private void planView(String name, int surfaces) {
        for (int what = 0; what < 13; what++) {
            int w = what;
            add(name + ": first " + w, h -> told(h, h.first(w)));
        }
        for (int s = 0; s < surfaces; s++) {
            int surface = s;
            add(name + ": worked " + s, h -> told(h, h.worked(surface, 0)) + told(h, h.worked(surface, 1))
                    + told(h, h.worked(surface, 2)));
            add(name + ": share " + s, h -> told(h, h.share(surface)));
            for (int what = 0; what < 6; what++) {
                int w = what;
                add(name + ": ray " + s, h -> told(h, h.ray(surface, w)));
            }
        }
        for (int term = 0; term < 7; term++) {
            int t = term;
            add(name + ": term " + t, h -> told(h, h.term(NONE, t)));
        }
        for (int k = 0; k < 4; k++) {
            int merit = k;
            add(name + ": value " + k, h -> told(h, h.value(merit)));
        }
        add(name + ": beam, stable", h -> told(h, h.beam(1, 2, 3, 4, 0)) + h.stable());
    }

    /** The VARIABLES and their STEPS are seen by what rounds make of them. */
    private void planRounds(int seen) {
        for (int k = 0; k < 4; k++) {
            int merit = k;
            addAlone("rounds by " + k, h -> {
                StringBuilder out = new StringBuilder().append(h.rounds(merit, 3));
                for (int s = 0; s < h.told(seen, 0) && s < 4; s++) {
                    out.append(told(h, h.datum(seen, s, 0))).append(told(h, h.datum(seen, s, 1)));
                }
                return out.toString();
            });
        }
    }

    /** What only other calls show: other STATES and WAVES, THE TAPE's text, FILMS, what OPENING makes of THE DISK. */
    private void planOthers(int lenses, int[] surfaces) {
        for (int l = 0; l < lenses; l++) {
            for (int i = 0; i < 6; i++) {
                int lens = l;
                int state = i % 4;
                int wave = i % 3;
                addAlone("lens " + l + " seen", h -> {
                    StringBuilder out = new StringBuilder().append(h.view(lens, state, wave));
                    for (int s = 0; s < surfaces[lens] && s < 10; s++) {
                        out.append(told(h, h.worked(s, 1))).append(told(h, h.ray(s, 2))).append(told(h, h.share(s)));
                    }
                    return out.toString();
                });
            }
        }
        addAlone("the tape", h -> "" + h.merit(3) + (h.count(6) == NONE ? "" : told(h, h.value(3))));
        addAlone("the films", h -> "" + h.film(0) + h.film(1) + h.film(2) + h.film(3));
        addAlone("forgetting", h -> "" + h.forget());
        addAlone("opening", h -> h.open() + " " + h.count(0) + " " + h.count(2));
    }
}
