/** Promise 15: rules, each 20 ticks. */
public final class RulesTest {
    private static final Check C = new Check("RulesTest");

    public static void main(String[] args) {
        calls();
        whenTheyAct();
        kinds();
        lastPlaces();
        missingPlaces();
        queueGoesRound();
        C.end();
    }

    private static FieldLine line() {
        FieldLine x = new FieldLine();
        x.device(5, 0);
        for (int kind = 0; kind < 4; kind++) {
            x.bank(0, kind, 10, 10);
        }
        return x;
    }

    private static void calls() {
        FieldLine x = line();
        C.due("no device", x.rule(1, 0, 0, 0, 0), false);
        C.due("kind -1", x.rule(0, -1, 0, 0, 0), false);
        C.due("kind 7", x.rule(0, 7, 0, 0, 0), false);
        C.due("a -1", x.rule(0, 0, -1, 0, 0), false);
        C.due("b 65536", x.rule(0, 0, 0, 65536, 0), false);
        C.due("c 65536", x.rule(0, 2, 0, 0, 65536), false);
        C.due("all 0", x.rule(0, 0, 0, 0, 0), true);
        for (int i = 1; i < 12; i++) {
            C.due("rule " + i, x.rule(0, i % 7, 65535, 65535, 65535), true);
        }
        C.due("a thirteenth", x.rule(0, 0, 0, 0, 0), false);
        x.tick(1);
        C.due("the first place stays", x.get(0, 3, 10), 0);
    }

    private static void whenTheyAct() {
        FieldLine x = line();
        x.rule(0, 0, 10, 1, 0);
        x.tick(1);
        C.due("at 0", x.get(0, 3, 10), 1);
        x.tick(19);
        C.due("at 20", x.get(0, 3, 10), 1);
        x.tick(1);
        C.due("behind 20", x.get(0, 3, 10), 2);
        x.tick(1000);
        C.due("behind 1020", x.get(0, 3, 10), 52);
    }

    private static void kinds() {
        FieldLine x = line();
        x.rule(0, 0, 10, 65535, 0);
        x.rule(0, 1, 11, 12, 0);
        x.rule(0, 2, 13, 14, 5);
        x.rule(0, 2, 15, 14, 5);
        x.rule(0, 3, 16, 17, 18);
        x.rule(0, 4, 18, 19, 0);
        x.put(0, 3, 10, 3);
        x.put(0, 2, 12, 777);
        x.put(0, 2, 14, 8);
        x.put(0, 3, 15, 20);
        x.put(0, 3, 16, 5);
        x.put(0, 2, 17, 5);
        x.put(0, 1, 18, 1);
        x.tick(1);
        C.due("kind 0 goes round", x.get(0, 3, 10), 2);
        C.due("kind 1", x.get(0, 3, 11), 777);
        C.due("kind 2 up", x.get(0, 3, 13), 5);
        C.due("kind 2 down", x.get(0, 3, 15), 15);
        C.due("kind 3, not above", x.get(0, 1, 18), 0);
        C.due("kind 4, no", x.get(0, 0, 19), 0);
        x.put(0, 3, 16, 6);
        x.tick(20);
        C.due("kind 2 up to it", x.get(0, 3, 13), 8);
        C.due("kind 2 down", x.get(0, 3, 15), 10);
        C.due("kind 3, above", x.get(0, 1, 18), 1);
        C.due("kind 4, yes", x.get(0, 0, 19), 1);
        x.put(0, 3, 16, 0);
        x.tick(20);
        C.due("kind 2 down to it", x.get(0, 3, 15), 8);
        C.due("kind 3, not above any more", x.get(0, 1, 18), 0);
        C.due("kind 4 takes no coil back", x.get(0, 0, 19), 1);
        resetsAndQueues();
    }

    private static void resetsAndQueues() {
        FieldLine x = line();
        x.queue(0, 3);
        x.rule(0, 6, 10, 3, 11);
        x.rule(0, 5, 11, 10, 0);
        x.put(0, 3, 10, 99);
        x.tick(1);
        C.due("kind 5 without the coil", x.get(0, 3, 10), 99);
        x.put(0, 0, 11, 1);
        x.tick(20);
        C.due("kind 5, the gauge", x.get(0, 3, 10), 0);
        C.due("kind 5, the coil", x.get(0, 0, 11), 0);
        x.tick(20);
        C.due("kind 6, once", x.push(0, 3, 1), 2);
        C.served(x, 0, Check.bytes(24, 0, 3), 24, 0, 6, 0, 2, 0, 99, 0, 1);
    }

    private static void lastPlaces() {
        FieldLine x = line();
        x.queue(0, 65535);
        x.put(0, 2, 19, 30);
        x.rule(0, 0, 19, 7, 0);
        x.rule(0, 3, 19, 19, 19);
        x.rule(0, 4, 19, 19, 0);
        x.rule(0, 6, 19, 65535, 19);
        x.tick(81);
        C.due("the gauge", x.get(0, 3, 19), 35);
        C.due("the contact", x.get(0, 1, 19), 1);
        C.due("the coil", x.get(0, 0, 19), 1);
        C.served(x, 0, Check.bytes(24, 255, 255), 24, 0, 4, 0, 1, 0, 35);
        x.rule(0, 5, 19, 19, 0);
        x.tick(20);
        C.due("the gauge", x.get(0, 3, 19), 0);
        C.due("the coil", x.get(0, 0, 19), 0);
        FieldLine y = line();
        y.put(0, 2, 19, 30);
        y.rule(0, 2, 19, 19, 4);
        y.tick(1);
        C.due("kind 2", y.get(0, 3, 19), 4);
        y.rule(0, 1, 19, 19, 0);
        y.tick(20);
        C.due("kind 1", y.get(0, 3, 19), 30);
    }

    private static void missingPlaces() {
        FieldLine x = line();
        x.queue(0, 3);
        x.rule(0, 5, 11, 9, 0);
        x.rule(0, 5, 9, 10, 0);
        x.rule(0, 1, 10, 20, 0);
        x.rule(0, 2, 10, 9, 5);
        x.rule(0, 3, 9, 10, 12);
        x.rule(0, 3, 10, 20, 14);
        x.rule(0, 4, 9, 13, 0);
        x.rule(0, 6, 9, 3, 11);
        x.rule(0, 6, 10, 3, 9);
        x.rule(0, 6, 10, 4, 11);
        x.put(0, 0, 11, 1);
        x.put(0, 1, 12, 1);
        x.put(0, 3, 10, 44);
        x.tick(1);
        C.due("the gauge stays", x.get(0, 3, 10), 44);
        C.due("the coil stays", x.get(0, 0, 11), 1);
        C.due("the contact stays", x.get(0, 1, 12), 1);
        C.due("the contact of a missing register stays", x.get(0, 1, 14), 0);
        C.due("the other coil stays", x.get(0, 0, 13), 0);
        C.due("the queue stays", x.push(0, 3, 1), 1);
    }

    private static void queueGoesRound() {
        FieldLine x = line();
        x.queue(0, 3);
        x.rule(0, 0, 10, 1, 0);
        x.rule(0, 6, 10, 3, 11);
        x.put(0, 0, 11, 1);
        x.tick(820);
        C.due("push into a full one", x.push(0, 3, 1), -1);
        C.due("the gauge", x.get(0, 3, 10), 41);
        x.put(0, 0, 11, 0);
        C.refused(x, 0, 3, 24, 0, 3);
    }
}
