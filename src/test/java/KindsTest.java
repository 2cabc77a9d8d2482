/** Kinds of owners and of goers: what each says at every hour, with all legs and loads, written out. */
public final class KindsTest {
    private static final Due due = new Due("KindsTest");

    /** How many steps are barred at hours 0 to 23, kind by kind. */
    private static final String[] BARRED = {
        "111111111111111111111111",
        "111111111111111111222222",
        "211111211111211111322222",
        "111111111333333331111111",
        "111111111222222221111111",
        "000001111111111111111111"};
    private static final String[] OWNERS = {
        "0 PLAIN: 1.",
        "1 CLERK (under PLAIN): PLAIN, 1 more, if t is 18 or more.",
        "2 POET (under CLERK): CLERK, 1 more, if 6 divides t.",
        "3 LADY (under PLAIN): PLAIN, 2 more, if t is 9 to 16.",
        "4 HEIR (under LADY): LADY less 1, 1 at least.",
        "5 NOBODY (under PLAIN): as PLAIN, but 0, if t is below 5."};
    private static final String[] GOERS = {
        "0 PLAIN: l.",
        "1 CHILD (under PLAIN): half (cut up) of PLAIN.",
        "2 PORTER (under PLAIN): PLAIN less a third (cut) of x, 1 at least.",
        "3 COFFIN (under PORTER): PORTER, 2 at most.",
        "4 LOVER (under PLAIN): PLAIN, 1 more, if t is 18 or more.",
        "5 OLD (under CHILD): as CHILD, but 1, if t is below 8."};

    public static void main(String[] args) {
        eachOwnerBarsAsTold();
        barsEndAtTen();
        hoursOfADayComeAgain();
        eachGoerStridesAsTold();
        oneStridesSoFarAndNoFarther();
        notesTellKindsOfOwners();
        marksTellKindsOfGoers();
        due.end();
    }

    private static int barred(int kind, int t) {
        return BARRED[kind].charAt(t) - '0';
    }

    /** How far, by legs 1 to 4, written out by kind, load and hour. */
    private static int reach(int kind, int legs, int load, int t) {
        String plain = "1234", half = "1122";
        String[] porter = {"1234", "1123", "1112", "1111"}, coffin = {"1222", "1122", "1112", "1111"};
        String row;
        switch (kind) {
            case 1: row = half; break;
            case 2: row = porter[load / 3]; break;
            case 3: row = coffin[load / 3]; break;
            case 4: row = t < 18 ? plain : "2345"; break;
            case 5: row = t < 8 ? "1111" : half; break;
            default: row = plain;
        }
        return row.charAt(legs - 1) - '0';
    }

    private static void eachOwnerBarsAsTold() {
        for (int kind = 0; kind < 6; kind++) {
            due.says("say how many STEPS, from his own on up, are BARRED at hour t of a day (0 .. 23)");
            due.says(OWNERS[kind]);
            for (int t = 0; t < 24; t++) {
                StairSteps x = Due.atHour(Due.with(kind, 1, 0, 4), t);
                due.is("15 bars of kind " + kind + " at " + t, x.about(0, 2), bits(1, barred(kind, t)));
                x.sells(0, 5);
                due.is("15 bars of kind " + kind + " at " + t + ", sold", x.about(0, 2), bits(5, barred(kind, t)));
            }
        }
    }

    private static int bits(int s, int many) {
        int bits = 0;
        for (int p = s; p < s + many && p <= 10; p++) bits |= 1 << p;
        return bits;
    }

    private static void barsEndAtTen() {
        due.says("BARS of a FLIGHT: STEPS (bits 1 to 10) BARRED now.");
        for (int kind = 0; kind < 6; kind++) {
            for (int t = 0; t < 24; t++) {
                StairSteps x = Due.atHour(Due.with(kind, 7, 0, 4), t);
                for (int s = 8; s <= 10; s++) {
                    x.sells(0, s);
                    due.is("15 bars of kind " + kind + " at " + t + " from " + s, x.about(0, 2), bits(s, barred(kind, t)));
                }
            }
        }
    }

    private static void hoursOfADayComeAgain() {
        due.says("of a day: that by 24 left over");
        int[] hours = {23, 24, 25, 28, 29, 32, 33, 40, 41, 42, 47, 48, 72, 95, 96};
        for (int hour : hours) {
            for (int kind = 0; kind < 6; kind++) {
                StairSteps x = Due.atHour(Due.with(kind, 4, kind, 4), hour);
                due.is("15 bars of kind " + kind + " at " + hour, x.about(0, 2), bits(4, barred(kind, hour % 24)));
                due.is("14 kind " + kind + " strides at " + hour, x.of(0, 5), reach(kind, 4, 0, hour % 24));
            }
        }
    }

    private static void eachGoerStridesAsTold() {
        for (int kind = 0; kind < 6; kind++) {
            due.says(GOERS[kind]);
            for (int legs = 1; legs <= 4; legs++) {
                for (int t = 0; t < 24; t++) stridesWithLoads(kind, legs, t);
            }
        }
    }

    private static void stridesWithLoads(int kind, int legs, int t) {
        StairSteps x = Due.atHour(Due.with(0, 1, kind, legs), t);
        for (int load = 0; load <= 9; load++) {
            x.loads(0, load);
            String what = "14 kind " + kind + " legs " + legs + " load " + load + " hour " + t;
            due.is(what, x.of(0, 5), reach(kind, legs, load, t));
        }
    }

    private static void oneStridesSoFarAndNoFarther() {
        due.says("A STRIDE of a GOER by k (1 .. as many as told): k STEPS up (11 at most)");
        int[] hours = {0, 7, 8, 17, 18, 23};
        for (int kind = 0; kind < 6; kind++) {
            for (int legs = 1; legs <= 4; legs++) {
                for (int t : hours) {
                    StairSteps x = Due.atHour(Due.with(0, 10, kind, legs), t);
                    x.loads(0, 4);
                    int far = reach(kind, legs, 4, t);
                    due.is("8 kind " + kind + " legs " + legs + " at " + t + ", farther", x.strides(0, far + 1), StairSteps.NO);
                    due.is("8 kind " + kind + " legs " + legs + " at " + t + ", so far", x.strides(0, far), far);
                }
            }
        }
    }

    private static void notesTellKindsOfOwners() {
        due.says("IS: KINDS (bits) of OWNERS by which all NOTES of one are so.");
        StairSteps x = Due.with(3, 10, 0, 4);
        for (int t = 0; t < 24; t++) {
            for (int many = 0; many <= 4; many++) {
                x.note(0, t, many);
                int want = 0;
                for (int kind = 0; kind < 6; kind++) want |= barred(kind, t) == many ? 1 << kind : 0;
                due.is("27 " + many + " at " + t, x.is(0), want);
                x.forget(1);
            }
        }
    }

    private static void marksTellKindsOfGoers() {
        due.says("WHAT: KINDS of GOERS (bits) by which all MARKS of one are so.");
        for (int legs = 1; legs <= 4; legs++) {
            for (int t = 0; t < 24; t++) marksAt(legs, t);
        }
    }

    private static void marksAt(int legs, int t) {
        StairSteps x = Due.with(0, 1, 5, 1);
        for (int load = 0; load <= 9; load++) {
            for (int far = 0; far <= 6; far++) {
                x.mark(0, legs, load, t, far);
                int want = 0;
                for (int kind = 0; kind < 6; kind++) want |= reach(kind, legs, load, t) == far ? 1 << kind : 0;
                due.is("29 legs " + legs + " load " + load + " hour " + t + " strode " + far, x.kinds(0), want);
                x.forget(2);
            }
        }
    }
}
