/** States that several tests begin with. */
final class States {
    private States() {
    }

    /**
     * A little of everything: 3 processors, the first of which has lost events, 3 places, 4 probes
     * with the last removed, 2 processes with a probe shed for the first, 5 messages with 2 of them
     * received, a mark, a wish, a replay under way, and the given text in the buffer, if any.
     */
    static Run rich(Check check, String text) {
        Run x = new Run(check);
        x.does("addProcessor 10 2; addProcessor 0 3; addProcessor 500 16");
        x.does("place io.a; place b; place c.c; probe io* 20; probe * 5; probe ?.? 7; probe b 50; removeProbe 3");
        x.does("addProcess 40; addProcess 999; wish 0 true");
        x.does("hit 0 0 0; send 0; pass 5; hit 1 0 0; receive 0 1; mark 0; send 1; hit 2 2 1; send 2");
        x.does("pass 60; receive 2 0; hit 0 0 1; replay; next; hit 0 1 1; send 0; send 2");
        return text.isEmpty() ? x : x.does("text " + text);
    }

    static Run rich(Check check) {
        return rich(check, "ab");
    }

    /** All limits reached: 4 processors, 10 places, 6 probes, 4 processes, 60 events, 20 messages. */
    static Run full(Check check) {
        Run x = new Run(check);
        x.does("addProcessor 0 16; addProcessor 30 16; addProcessor 500 16; addProcessor 7 1");
        for (char name = 'a'; name < 'a' + 10; name++) {
            x.does("place " + name);
        }
        x.does("probe a 50; probe * 1; probe ? 2; probe b 3; probe ?* 4; probe .. 5");
        x.does("addProcess 999; addProcess 0; addProcess 30; addProcess 500");
        for (int message = 0; message < 20; message++) {
            int sender = message % 4;
            x.does("send " + sender);
            x.does(message % 5 == 0 ? "pass 7" : "now");
            x.does("receive " + message + " " + (sender + 1 + message % 3) % 4);
        }
        for (int i = 0; i < 20; i++) {
            x.does("hit " + i % 4 + " " + i % 10 + " " + (i % 3 == 0 ? 0 : 3));
        }
        return x;
    }

    /** Two processors with rings of 16, and 2 events for each of so many pairs: a send and a hit. */
    static Run withPairs(Check check, int pairs) {
        Run x = new Run(check);
        x.does("addProcessor 0 16; addProcessor 0 16; place a; place b; probe a 1; addProcess 999; addProcess 0");
        return x.times(pairs, "send 0; hit 0 0 0");
    }
}
