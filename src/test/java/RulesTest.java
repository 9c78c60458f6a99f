/** Promise 15 and part 4 of the terms: rules, each 20 ticks. */
public final class RulesTest extends Check {
    private static final int COIL = 0;
    private static final int CONTACT = 1;
    private static final int REGISTER = 2;
    private static final int GAUGE = 3;

    public static void main(String[] args) {
        ruleKinds();
        ruleNumbers();
        ruleNumbersAsTheyAre();
        rulesTwelve();
        ruleWithoutDevice();
        whenTheyAct();
        whateverGoesOn();
        inOrder();
        gaugeGoesRound();
        gaugeIsRegister();
        gaugeGoesToRegister();
        contactIfAbove();
        coilIfContact();
        coilResetsGauge();
        gaugeComesIntoQueue();
        fullQueue();
        nothingElse();
        firstAndLastPlaces();
        missingGauge();
        missingRegister();
        missingContact();
        missingCoil();
        missingQueue();
        missingBehindAFullBank();
        missingLeavesTheOthers();
        placesOfEachBank();
        placesOfAnotherBank();
        end("RulesTest");
    }

    /** A device whose banks have the places 10 to 19. */
    private static FieldLine line() {
        FieldLine x = new FieldLine();
        x.device(5, 0);
        for (int kind = 0; kind < 4; kind++) {
            x.bank(0, kind, 10, 10);
        }
        return x;
    }

    private static void ruleKinds() {
        sentence("15: of kind 0 to 6");
        FieldLine x = line();
        int[] wrong = {-1, 7, Integer.MIN_VALUE, Integer.MAX_VALUE};
        for (int kind : wrong) {
            due("kind " + kind, x.rule(0, kind, 10, 1, 10), false);
        }
        for (int kind = 0; kind <= 6; kind++) {
            due("kind " + kind, x.rule(0, kind, 0, 0, 0), true);
        }
        x.tick(1);
        due("the wrong ones don't act", x.get(0, GAUGE, 10), 0);
    }

    private static void ruleNumbers() {
        sentence("15: a, b, c 0 to 65535");
        FieldLine x = line();
        int[] wrong = {-1, 65536, Integer.MIN_VALUE, Integer.MAX_VALUE};
        for (int v : wrong) {
            due("a " + v, x.rule(0, 3, v, 0, 0), false);
            due("b " + v, x.rule(0, 3, 0, v, 0), false);
            due("c " + v, x.rule(0, 3, 0, 0, v), false);
        }
        due("all 0", x.rule(0, 3, 0, 0, 0), true);
        due("all 65535", x.rule(0, 3, 65535, 65535, 65535), true);
    }

    private static void ruleNumbersAsTheyAre() {
        sentence("15: n as they are; of 0: a, n; of 2: a, b, n");
        FieldLine x = line();
        x.rule(0, 0, 10, 65535, 3);
        x.rule(0, 2, 11, 10, 65535);
        x.rule(0, 2, 12, 10, 0);
        x.put(0, REGISTER, 10, 65535);
        x.tick(1);
        due("65535 more", x.get(0, GAUGE, 10), 65535);
        due("by 65535 at most", x.get(0, GAUGE, 11), 65535);
        due("by 0 at most", x.get(0, GAUGE, 12), 0);
    }

    private static void rulesTwelve() {
        sentence("Terms 4: RULES of a device (at most 12)");
        FieldLine x = line();
        x.device(6, 0);
        for (int i = 0; i < 12; i++) {
            due("rule " + i, x.rule(0, 0, 10, 1, 0), true);
        }
        due("a thirteenth", x.rule(0, 0, 10, 1, 0), false);
        due("another device has room", x.rule(1, 0, 10, 1, 0), true);
        x.tick(1);
        due("twelve acted", x.get(0, GAUGE, 10), 12);
    }

    private static void ruleWithoutDevice() {
        sentence("15: a rule more (without a device)");
        FieldLine x = line();
        due("device 1", x.rule(1, 0, 10, 1, 0), false);
        due("device -1", x.rule(-1, 0, 10, 1, 0), false);
    }

    private static void whenTheyAct() {
        sentence("Terms 1: if T is a multiple of 20: for each device, in order, its RULES");
        FieldLine x = line();
        x.device(6, 0);
        x.bank(1, GAUGE, 0, 1);
        x.rule(0, 0, 10, 1, 0);
        x.rule(1, 0, 0, 2, 0);
        due("ahead", x.get(0, GAUGE, 10), 0);
        x.tick(1);
        due("T 0", x.get(0, GAUGE, 10), 1);
        due("T 0, the second device", x.get(1, GAUGE, 0), 2);
        x.tick(19);
        due("T 19", x.get(0, GAUGE, 10), 1);
        x.tick(1);
        due("T 20", x.get(0, GAUGE, 10), 2);
        x.tick(1000);
        due("T 1020", x.get(0, GAUGE, 10), 52);
        due("T 1020, the second device", x.get(1, GAUGE, 0), 104);
        FieldLine late = line();
        late.tick(1);
        late.rule(0, 0, 10, 1, 0);
        late.tick(19);
        due("told behind T 0", late.get(0, GAUGE, 10), 0);
        late.tick(1);
        due("told behind T 0, at T 20", late.get(0, GAUGE, 10), 1);
    }

    private static void whateverGoesOn() {
        sentence("Terms 1: if T is a multiple of 20: its RULES (while frames are sent, of a BUSY or DEAF one)");
        FieldLine x = line();
        x.device(6, 0);
        x.bank(1, GAUGE, 0, 1);
        x.rule(0, 0, 10, 1, 0);
        x.rule(1, 0, 0, 1, 0);
        x.busy(0, 5);
        load(x, 8, 0, 4, 0, 0);
        x.serve(1);
        request(x, 5, join(bytes(8, 0, 0), repeat(1, 250)));
        for (int acted = 1; acted <= 100; acted++) {
            x.tick(20);
            due("a busy one at T " + 20 * (acted - 1), x.get(0, GAUGE, 10), acted);
            due("a deaf one at T " + 20 * (acted - 1), x.get(1, GAUGE, 0), acted);
        }
        states(x, "a request, a refusal, the request again", 16, 3);
    }

    private static void inOrder() {
        sentence("Terms 4: RULES of a device, in order");
        FieldLine x = line();
        x.rule(0, 0, 10, 7, 0);
        x.rule(0, 3, 10, 10, 10);
        x.rule(0, 4, 10, 10, 0);
        x.rule(0, 5, 10, 10, 0);
        x.tick(1);
        due("the contact", x.get(0, CONTACT, 10), 1);
        due("the coil", x.get(0, COIL, 10), 0);
        due("the gauge", x.get(0, GAUGE, 10), 0);
        FieldLine y = line();
        y.rule(0, 5, 10, 10, 0);
        y.rule(0, 4, 10, 10, 0);
        y.rule(0, 3, 10, 10, 10);
        y.rule(0, 0, 10, 7, 0);
        y.tick(1);
        due("the other way round, the contact", y.get(0, CONTACT, 10), 0);
        due("the other way round, the gauge", y.get(0, GAUGE, 10), 7);
    }

    private static void gaugeGoesRound() {
        sentence("Terms 4: 0 a, n: GAUGE a is n more (it goes round)");
        FieldLine x = line();
        int[][] cases = {{65534, 1, 65535}, {65535, 1, 0}, {65535, 65535, 65534}, {1, 65535, 0}, {0, 65535, 65535}};
        for (int i = 0; i < cases.length; i++) {
            x.put(0, GAUGE, 10 + i, cases[i][0]);
            x.rule(0, 0, 10 + i, cases[i][1], 0);
        }
        x.tick(1);
        for (int i = 0; i < cases.length; i++) {
            due(cases[i][0] + " and " + cases[i][1], x.get(0, GAUGE, 10 + i), cases[i][2]);
        }
    }

    private static void gaugeIsRegister() {
        sentence("Terms 4: 1 a, b: GAUGE a is REGISTER b");
        FieldLine x = line();
        x.put(0, REGISTER, 12, 65535);
        x.rule(0, 1, 11, 12, 0);
        x.tick(1);
        due("65535", x.get(0, GAUGE, 11), 65535);
        due("the register stays", x.get(0, REGISTER, 12), 65535);
        x.put(0, REGISTER, 12, 0);
        x.tick(20);
        due("0", x.get(0, GAUGE, 11), 0);
    }

    private static void gaugeGoesToRegister() {
        sentence("Terms 4: 2 a, b, n: GAUGE a goes to REGISTER b by n at most");
        int[][] cases = {{0, 100, 99, 99}, {0, 100, 100, 100}, {0, 100, 101, 100}, {100, 0, 99, 1}, {100, 0, 100, 0},
            {100, 0, 101, 0}, {7, 7, 5, 7}, {65535, 0, 1, 65534}, {0, 65535, 65535, 65535}, {65530, 65535, 9, 65535}};
        FieldLine x = line();
        for (int i = 0; i < cases.length; i++) {
            x.put(0, GAUGE, 10 + i, cases[i][0]);
            x.put(0, REGISTER, 10 + i, cases[i][1]);
            x.rule(0, 2, 10 + i, 10 + i, cases[i][2]);
        }
        x.tick(1);
        for (int i = 0; i < cases.length; i++) {
            due("from " + cases[i][0] + " to " + cases[i][1] + " by " + cases[i][2],
                    x.get(0, GAUGE, 10 + i), cases[i][3]);
        }
    }

    private static void contactIfAbove() {
        sentence("Terms 4: 3 a, b, c: CONTACT c is 1 if GAUGE a is above REGISTER b, else 0");
        FieldLine x = line();
        int[][] cases = {{5, 5, 0}, {6, 5, 1}, {4, 5, 0}, {65535, 0, 1}, {0, 65535, 0}, {0, 0, 0}};
        for (int i = 0; i < cases.length; i++) {
            x.put(0, GAUGE, 10 + i, cases[i][0]);
            x.put(0, REGISTER, 10 + i, cases[i][1]);
            x.put(0, CONTACT, 10 + i, 1 - cases[i][2]);
            x.rule(0, 3, 10 + i, 10 + i, 10 + i);
        }
        x.tick(1);
        for (int i = 0; i < cases.length; i++) {
            due(cases[i][0] + " and " + cases[i][1], x.get(0, CONTACT, 10 + i), cases[i][2]);
        }
        for (int above = 0; above <= 1; above++) {
            FieldLine y = line();
            for (int at = 10; at < 20; at++) {
                y.put(0, GAUGE, at, above == 1 ? 0 : 100);
                y.put(0, REGISTER, at, above == 1 ? 100 : 0);
                y.put(0, CONTACT, at, 1 - above);
            }
            y.put(0, GAUGE, 13, 51 - 2 * (1 - above));
            y.put(0, REGISTER, 16, 50);
            y.rule(0, 3, 13, 16, 18);
            y.tick(1);
            for (int at = 10; at < 20; at++) {
                due("contact " + at, y.get(0, CONTACT, at), at == 18 ? above : 1 - above);
            }
        }
    }

    private static void coilIfContact() {
        sentence("Terms 4: 4 a, b: COIL b is 1 if CONTACT a is");
        FieldLine x = line();
        x.rule(0, 4, 10, 11, 0);
        x.rule(0, 4, 12, 13, 0);
        x.put(0, CONTACT, 10, 1);
        x.tick(1);
        due("the contact is 1", x.get(0, COIL, 11), 1);
        due("the contact is 0", x.get(0, COIL, 13), 0);
        due("no other coil", x.get(0, COIL, 10), 0);
        x.put(0, CONTACT, 10, 0);
        x.tick(20);
        due("not any more: the coil stays", x.get(0, COIL, 11), 1);
    }

    private static void coilResetsGauge() {
        sentence("Terms 4: 5 a, b: if COIL a is 1, it is 0, GAUGE b 0");
        FieldLine x = line();
        x.rule(0, 5, 11, 12, 0);
        x.put(0, GAUGE, 12, 99);
        x.tick(1);
        due("the coil is 0", x.get(0, GAUGE, 12), 99);
        x.put(0, COIL, 11, 1);
        x.put(0, COIL, 12, 1);
        x.tick(20);
        due("the gauge", x.get(0, GAUGE, 12), 0);
        due("the coil", x.get(0, COIL, 11), 0);
        due("another coil", x.get(0, COIL, 12), 1);
    }

    private static void gaugeComesIntoQueue() {
        sentence("Terms 4: 6 a, b, c: if COIL c is 1, GAUGE a comes into QUEUE b");
        FieldLine x = line();
        x.queue(0, 3);
        x.queue(0, 4);
        x.rule(0, 6, 10, 3, 11);
        x.put(0, GAUGE, 10, 65535);
        x.tick(1);
        served(x, 0, bytes(24, 0, 3), 24, 0, 2, 0, 0);
        x.put(0, COIL, 11, 1);
        x.tick(20);
        x.put(0, GAUGE, 10, 7);
        x.tick(20);
        served(x, 0, bytes(24, 0, 3), 24, 0, 6, 0, 2, 255, 255, 0, 7);
        served(x, 0, bytes(24, 0, 4), 24, 0, 2, 0, 0);
        due("the gauge stays", x.get(0, GAUGE, 10), 7);
        due("the coil stays", x.get(0, COIL, 11), 1);
    }

    private static void fullQueue() {
        sentence("Terms 4: of 40 the oldest goes");
        FieldLine x = line();
        x.queue(0, 3);
        x.rule(0, 6, 10, 3, 11);
        x.put(0, COIL, 11, 1);
        x.tick(39 * 20);
        due("39, one more goes in", x.push(0, 3, 1), 40);
        x.tick(20);
        due("still 40", x.push(0, 3, 1), NONE);
        x.tick(1000);
        due("still 40 later", x.push(0, 3, 1), NONE);
        refused(x, 0, 3, 24, 0, 3);
    }

    /** Banks of the places 0 to 9: coils and contacts alike, registers from 100 on, gauges from a value on; queues. */
    private static FieldLine filledLine(int coil, int contact, int gauge) {
        FieldLine x = new FieldLine();
        x.device(5, 0);
        for (int at = 1; at <= 3; at++) {
            x.queue(0, at);
        }
        int[] first = {coil, contact, 100, gauge};
        for (int kind = 0; kind < 4; kind++) {
            x.bank(0, kind, 0, 10);
            for (int at = 0; at < 10; at++) {
                x.put(0, kind, at, kind < 2 ? first[kind] : first[kind] + at);
            }
        }
        return x;
    }

    private static void nothingElse() {
        sentence("Terms 4: (what each rule changes of all places and queues)");
        for (int bits = 0; bits < 4; bits++) {
            for (int gauge = 0; gauge <= 200; gauge += 200) {
                for (int rule = 0; rule <= 6; rule++) {
                    changes(rule, bits % 2, bits / 2, gauge);
                }
            }
        }
    }

    /** Two lines are alike, of which one has a rule 1, 2, 3 and the other is changed by hand. */
    private static void changes(int rule, int coil, int contact, int gauge) {
        FieldLine x = filledLine(coil, contact, gauge);
        x.rule(0, rule, 1, 2, 3);
        x.tick(1);
        FieldLine y = filledLine(coil, contact, gauge);
        changeByHand(y, rule, coil, contact, gauge);
        for (int at = 0; at < 10; at++) {
            for (int kind = 0; kind < 4; kind++) {
                due("rule " + rule + ", kind " + kind + " at " + at, x.get(0, kind, at), y.get(0, kind, at));
            }
        }
        for (int at = 1; at <= 3; at++) {
            due("rule " + rule + ", queue " + at, x.push(0, at, 0), y.push(0, at, 0));
        }
    }

    private static void changeByHand(FieldLine y, int rule, int coil, int contact, int gauge) {
        boolean above = gauge + 1 > 102;
        switch (rule) {
            case 0: y.put(0, GAUGE, 1, gauge + 1 + 2); break;
            case 1: y.put(0, GAUGE, 1, 102); break;
            case 2: y.put(0, GAUGE, 1, above ? gauge + 1 - 3 : gauge + 1 + 3); break;
            case 3: y.put(0, CONTACT, 3, above ? 1 : 0); break;
            case 4: y.put(0, COIL, 2, contact == 1 ? 1 : coil); break;
            case 5: y.put(0, COIL, 1, 0); y.put(0, GAUGE, 2, coil == 1 ? 0 : gauge + 2); break;
            default:
                if (coil == 1) {
                    y.push(0, 2, gauge + 1);
                }
        }
    }

    private static void firstAndLastPlaces() {
        sentence("Terms 4: a rule with a place (the first one, the last one)");
        for (int at = 10; at <= 19; at += 9) {
            FieldLine x = line();
            x.queue(0, 65535);
            x.put(0, REGISTER, at, 30);
            x.rule(0, 0, at, 35, 0);
            x.rule(0, 3, at, at, at);
            x.rule(0, 4, at, at, 0);
            x.rule(0, 6, at, 65535, at);
            x.rule(0, 2, at, at, 4);
            x.tick(1);
            due("kind 2 at " + at, x.get(0, GAUGE, at), 31);
            due("kind 3 at " + at, x.get(0, CONTACT, at), 1);
            due("kind 4 at " + at, x.get(0, COIL, at), 1);
            served(x, 0, bytes(24, 255, 255), 24, 0, 4, 0, 1, 0, 35);
            x.rule(0, 5, at, at, 0);
            x.tick(20);
            due("kind 5 at " + at, x.get(0, GAUGE, at) + x.get(0, COIL, at), 0);
            x.rule(0, 1, at, at, 0);
            x.tick(20);
            due("kind 1 at " + at, x.get(0, GAUGE, at), 30);
        }
    }

    private static void missingGauge() {
        sentence("Terms 4: a rule with a place that isn't there does nothing (a GAUGE)");
        int[] places = {9, 20};
        for (int at : places) {
            FieldLine x = line();
            x.queue(0, 3);
            x.put(0, COIL, 11, 1);
            x.put(0, CONTACT, 12, 1);
            x.rule(0, 0, at, 5, 0);
            x.rule(0, 1, at, 10, 0);
            x.rule(0, 2, at, 10, 5);
            x.rule(0, 3, at, 10, 12);
            x.rule(0, 5, 11, at, 0);
            x.rule(0, 6, at, 3, 11);
            x.tick(1);
            due("kind 0: none came", x.get(0, GAUGE, at), NONE);
            due("kind 0: the first one", x.get(0, GAUGE, 10), 0);
            due("kind 0: the last one", x.get(0, GAUGE, 19), 0);
            due("kind 3: the contact", x.get(0, CONTACT, 12), 1);
            due("kind 5: the coil", x.get(0, COIL, 11), 1);
            due("kind 6: the queue", x.push(0, 3, 1), 1);
        }
    }

    private static void missingRegister() {
        sentence("Terms 4: a rule with a place that isn't there does nothing (a REGISTER)");
        int[] places = {9, 20};
        for (int at : places) {
            FieldLine x = line();
            x.put(0, GAUGE, 10, 44);
            x.put(0, GAUGE, 11, 45);
            x.rule(0, 1, 10, at, 0);
            x.rule(0, 2, 11, at, 5);
            x.rule(0, 3, 10, at, 12);
            x.tick(1);
            due("kind 1: the gauge", x.get(0, GAUGE, 10), 44);
            due("kind 2: the gauge", x.get(0, GAUGE, 11), 45);
            due("kind 3: the contact", x.get(0, CONTACT, 12), 0);
        }
    }

    private static void missingContact() {
        sentence("Terms 4: a rule with a place that isn't there does nothing (a CONTACT)");
        int[] places = {9, 20};
        for (int at : places) {
            FieldLine x = line();
            for (int near = 10; near < 20; near++) {
                x.put(0, CONTACT, near, 1);
            }
            x.put(0, GAUGE, 10, 0);
            x.rule(0, 3, 10, 10, at);
            x.rule(0, 4, at, 13, 0);
            x.tick(1);
            due("kind 3: the first contact", x.get(0, CONTACT, 10), 1);
            due("kind 3: the last contact", x.get(0, CONTACT, 19), 1);
            due("kind 4: the coil", x.get(0, COIL, 13), 0);
        }
    }

    private static void missingCoil() {
        sentence("Terms 4: a rule with a place that isn't there does nothing (a COIL)");
        int[] places = {9, 20};
        for (int at : places) {
            FieldLine x = line();
            x.queue(0, 3);
            for (int near = 11; near < 19; near++) {
                x.put(0, COIL, near, 1);
            }
            x.put(0, CONTACT, 10, 1);
            x.put(0, GAUGE, 10, 44);
            x.rule(0, 4, 10, at, 0);
            x.rule(0, 5, at, 10, 0);
            x.rule(0, 6, 10, 3, at);
            x.tick(1);
            due("kind 4: the first coil", x.get(0, COIL, 10), 0);
            due("kind 4: the last coil", x.get(0, COIL, 19), 0);
            due("kind 5: the gauge", x.get(0, GAUGE, 10), 44);
            due("kind 6: the queue", x.push(0, 3, 1), 1);
        }
    }

    private static void missingQueue() {
        sentence("Terms 4: a rule with a QUEUE that isn't there does nothing");
        FieldLine x = line();
        x.queue(0, 3);
        x.put(0, COIL, 10, 1);
        x.rule(0, 6, 10, 4, 10);
        x.tick(1);
        due("the other queue", x.push(0, 3, 1), 1);
        due("none came", x.push(0, 4, 1), NONE);
        x.queue(0, 4);
        x.tick(20);
        due("it is there now", x.push(0, 4, 1), 2);
    }

    private static void missingBehindAFullBank() {
        sentence("Terms 4: a rule with a place that isn't there does nothing (behind a bank of 400)");
        FieldLine x = new FieldLine();
        x.device(5, 0);
        x.queue(0, 3);
        for (int kind = 0; kind < 4; kind++) {
            x.bank(0, kind, 0, 400);
            x.put(0, kind, 0, 1);
            x.put(0, kind, 399, 1);
        }
        int[][] rules = {{0, 400, 5, 0}, {1, 400, 0, 0}, {1, 0, 400, 0}, {2, 400, 0, 5}, {3, 0, 0, 400}, {3, 400, 0, 0},
            {4, 0, 400, 0}, {5, 0, 400, 0}, {5, 400, 0, 0}, {6, 400, 3, 0}, {6, 0, 3, 400}};
        for (int[] rule : rules) {
            x.rule(0, rule[0], rule[1], rule[2], rule[3]);
        }
        x.tick(1);
        for (int kind = 0; kind < 4; kind++) {
            due("the first place of kind " + kind, x.get(0, kind, 0), 1);
            due("the last place of kind " + kind, x.get(0, kind, 399), 1);
            due("none behind", x.get(0, kind, 400), NONE);
        }
        due("the queue", x.push(0, 3, 1), 1);
    }

    private static void missingLeavesTheOthers() {
        sentence("Terms 4: a rule with a place, a QUEUE that isn't there does nothing (the others act)");
        for (int kind = 0; kind <= 6; kind++) {
            FieldLine x = line();
            x.put(0, COIL, 10, 1);
            x.put(0, CONTACT, 10, 1);
            x.rule(0, 0, 19, 1, 0);
            x.rule(0, kind, 9, 9, 9);
            x.rule(0, kind, 10, 20, kind == 6 ? 10 : 9);
            x.rule(0, 0, 19, 2, 0);
            x.tick(1);
            due("those ahead and behind of kind " + kind, x.get(0, GAUGE, 19), 3);
            x.tick(20);
            due("again", x.get(0, GAUGE, 19), 6);
        }
    }

    /** Banks that have no place alike: the first places of coils, contacts, registers, gauges; then the queue's place. */
    private static final int[] FIRST = {0, 20, 40, 60, 80};

    /** What a, b and c are of each kind of rule: a kind of bank, 4 a queue, 9 a number. */
    private static final int[][] PLACES = {{GAUGE, 9, 9}, {GAUGE, REGISTER, 9}, {GAUGE, REGISTER, 9},
        {GAUGE, REGISTER, CONTACT}, {CONTACT, COIL, 9}, {COIL, GAUGE, 9}, {GAUGE, 4, COIL}};

    /** What the first places are, so that a rule of a kind would be seen. */
    private static int[] valuesFor(int kind) {
        return bytes(kind == 4 ? 0 : 1, kind == 3 ? 0 : 1, 5, 9);
    }

    private static FieldLine apart(int ruleKind) {
        FieldLine x = new FieldLine();
        x.device(5, 0);
        for (int kind = 0; kind < 4; kind++) {
            x.bank(0, kind, FIRST[kind], 10);
            x.put(0, kind, FIRST[kind], valuesFor(ruleKind)[kind]);
        }
        x.queue(0, FIRST[4]);
        return x;
    }

    private static int firstOf(int place) {
        return place == 9 ? 3 : FIRST[place];
    }

    private static int queued(FieldLine x) {
        load(x, 24, 0, FIRST[4]);
        x.serve(0);
        return x.answer(4);
    }

    private static void placesOfEachBank() {
        sentence("Terms 4: a rule with a place that is there (of banks that have no place alike)");
        FieldLine[] lines = new FieldLine[7];
        for (int kind = 0; kind <= 6; kind++) {
            lines[kind] = apart(kind);
            int[] places = PLACES[kind];
            lines[kind].rule(0, kind, firstOf(places[0]), firstOf(places[1]), firstOf(places[2]));
            lines[kind].tick(1);
        }
        due("0", lines[0].get(0, GAUGE, FIRST[GAUGE]), 12);
        due("1", lines[1].get(0, GAUGE, FIRST[GAUGE]), 5);
        due("2", lines[2].get(0, GAUGE, FIRST[GAUGE]), 6);
        due("3", lines[3].get(0, CONTACT, FIRST[CONTACT]), 1);
        due("4", lines[4].get(0, COIL, FIRST[COIL]), 1);
        due("5", lines[5].get(0, COIL, FIRST[COIL]), 0);
        due("5", lines[5].get(0, GAUGE, FIRST[GAUGE]), 0);
        due("6", queued(lines[6]), 1);
    }

    private static void placesOfAnotherBank() {
        sentence("Terms 4: a rule with a place that isn't there does nothing (a place of other banks)");
        for (int kind = 0; kind <= 6; kind++) {
            for (int wrong = 0; wrong < 3; wrong++) {
                for (int other = 0; other < FIRST.length && PLACES[kind][wrong] != 9; other++) {
                    if (other == PLACES[kind][wrong]) {
                        continue;
                    }
                    int[] at = {firstOf(PLACES[kind][0]), firstOf(PLACES[kind][1]), firstOf(PLACES[kind][2])};
                    at[wrong] = FIRST[other];
                    FieldLine x = apart(kind);
                    x.rule(0, kind, at[0], at[1], at[2]);
                    x.tick(1);
                    nothingDone(x, kind, "rule " + kind + " " + java.util.Arrays.toString(at));
                }
            }
        }
    }

    private static void nothingDone(FieldLine x, int ruleKind, String rule) {
        for (int kind = 0; kind < 4; kind++) {
            for (int i = 0; i < 10; i++) {
                int want = i == 0 ? valuesFor(ruleKind)[kind] : 0;
                due(rule + ": kind " + kind + ", place " + i, x.get(0, kind, FIRST[kind] + i), want);
            }
        }
        due(rule + ": in the queue", queued(x), 0);
    }
}
