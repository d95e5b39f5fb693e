import java.math.BigInteger;

/**
 * For each sentence of the document's 'Terms' that names a boundary, and for the overflow of promise
 * 42, a test of its own at the last value inside, the first one outside, the empty and the full state.
 */
public final class TermsTest {
    private static final Check check = new Check("terms");

    public static void main(String[] args) {
        atMost512Calls();
        timeFrom0To1000();
        windowsOf100();
        fourProcessors();
        clocksShowTimePlusOffset();
        tenPlaces();
        namesOf1To12();
        noOtherPlaceHasThisName();
        patternsOf1To12();
        eachQuestionMark();
        eachStar();
        matchesBehindLongerOnes();
        sixProbes();
        onUntilRemoved();
        costsFrom1To50();
        sumsOfTheGreatestCosts();
        fourProcesses();
        budgetsFrom0To999();
        allProbesFireThat();
        moreThanTheBudget();
        mostExpensiveOfThoseThatFired();
        shedForThisProcess();
        budgetsForEachWindow();
        noProbeIsShedInANewWindow();
        sixtyEvents();
        hitsInWhichAProbeFires();
        localTimeIsWhatTheClockShows();
        twentyMessages();
        receivedAtMostOnce();
        doesNotCauseItself();
        causesDirectly();
        causesInSequence();
        capacities1To16();
        oldestEventIsLost();
        markBeforeAllEvents();
        differencesOfClocks();
        leastSum();
        noBound();
        correctionOfProcessor0();
        correctionsByTheBoundsThatExist();
        correctionsRoundedDown();
        correctedTimes();
        leastCorrectedTime();
        lowestNumber();
        keptEventsThatCauseThem();
        replayOfTheOrderAsItWas();
        placesWishedNow();
        fingerprintOverflows();
        consistentAtTheLimits();
        check.end();
    }

    private static Run start(String sentence) {
        check.about(sentence);
        return new Run(check);
    }

    /** A new object with so many processors of one offset and capacity. */
    private static Run start(String sentence, int processors, int offset, int capacity) {
        return start(sentence).times(processors, "addProcessor " + offset + " " + capacity);
    }

    // ---- calls

    private static void atMost512Calls() {
        String sentence = "An object is used for at most 512 calls";
        String[] lastCalls = {"isConsistent", "fingerprint", "merged 47", "fired 59", "causes 0 59",
            "causesByPairs 0 59", "correctedTime 59", "replay", "dearest", "meanCost", "lostShare", "spentByEvents 3",
            "keptAt 0 13", "bound 0 3", "pass 200", "type a", "wish 9 true", "mark 3", "removeProbe 0", "matches 5 9",
            "matchesByTable 4 9", "next"};
        check.about(sentence);
        for (String last : lastCalls) {
            Object want = States.full(check).answer(last);
            Run x = States.full(check);
            while (x.callCount() < Run.MOST_CALLS - 1) {
                x.does("isConsistent");
            }
            x.due(last, want);
        }
        start(sentence).times(511, "now").due("now", 0);
        Run texts = start(sentence);
        for (int i = 0; i < 39; i++) {
            texts.does("text abcdefghijkl").due("addProbe 51", Run.ARGUMENT);
        }
        texts.does("text aaaa").due("addPlace", 0);
        check.due("all calls are used", Run.MOST_CALLS, texts::callCount);
    }

    // ---- time and clocks

    private static void timeFrom0To1000() {
        Run x = start("The present time is initially 0, and it is at most 1000").due("now", 0);
        x.times(4, "pass 200").does("pass 199").due("now", 999).refused("pass 2", Run.STATE);
        x.due("pass 1", 1000).due("now", 1000).refused("pass 1", Run.STATE).refused("pass 200", Run.STATE);
    }

    private static void windowsOf100() {
        String sentence = "it is divided into windows of 100, from 0 to 99, from 100 to 199, and so on";
        for (int window = 0; window <= 9; window++) {
            Run x = start(sentence, 1, 0, 16).does("place a; probe a 5; addProcess 0");
            x.times(window, "pass 100").does("hit 0 0 0");
            x.does("pass 99").dueAll("spent 0; spentByEvents 0; isShed 0 0", "5 5 true");
            x.due("pass 1", window * 100 + 100).dueAll("spent 0; spentByEvents 0; isShed 0 0", "0 0 false");
        }
        // 250 and 300 are in two windows, 300 and 350 are in one.
        Run y = start(sentence, 1, 0, 16).does("place a; probe a 5; addProcess 99; pass 200; pass 50; hit 0 0 0");
        y.does("pass 50; hit 0 0 0").due("spent 0", 5).does("pass 50; hit 0 0 0").due("spent 0", 10);
        y.due("spentByEvents 0", 10).does("pass 200").dueAll("spent 0; spentByEvents 0", "0 0");
    }

    private static void fourProcessors() {
        Run x = start("There are at most 4 processors, numbered from 0");
        x.due("kept 0", Run.INDEX).due("addProcessor 0 1", 0).due("addProcessor 0 1", 1).due("addProcessor 0 1", 2);
        x.due("kept 3", Run.INDEX).due("addProcessor 0 1", 3).dueAll("kept 0; kept 3", "0 0");
        x.refused("addProcessor 0 1", Run.STATE).due("kept 4", Run.INDEX).due("kept -1", Run.INDEX);
    }

    private static void clocksShowTimePlusOffset() {
        Run x = start("The clock of a processor shows the present time plus its offset");
        x.does("addProcessor 0 16; addProcessor 500 16; addProcessor 499 16; send 0; send 1; send 2");
        x.dueAll("localTime 0; localTime 1; localTime 2", "0 500 499");
        x.times(5, "pass 200").does("send 0; send 1; send 2; addProcessor 1 16; send 3");
        x.dueAll("localTime 3; localTime 4; localTime 5; localTime 6", "1000 1500 1499 1001");
    }

    // ---- places and patterns

    private static void tenPlaces() {
        Run x = start("There are at most 10 places, numbered from 0").due("wish 0 true", Run.INDEX);
        for (int place = 0; place < 10; place++) {
            x.does("text " + (char) ('a' + place)).due("wish " + place + " false", Run.INDEX).due("addPlace", place);
            x.due("wish " + place + " false", false);
        }
        x.refusedText("k", "addPlace", Run.STATE).due("wish 10 false", Run.INDEX);
    }

    private static void namesOf1To12() {
        Run x = start("a place has a name of 1 to 12 characters, which are letters from 'a' to 'z' or dots");
        x.refused("addPlace", Run.ARGUMENT);
        x.does("text a").due("addPlace", 0).does("text z").due("addPlace", 1).does("text .").due("addPlace", 2);
        x.does("text azazaz.zazaz").due("addPlace", 3).does("text ............").due("addPlace", 4);
        x.does("text abcdefghijkl").refused("type m", Run.STATE).due("addPlace", 5);
        x.refusedText("?", "addPlace", Run.ARGUMENT).refusedText("abcdefghijk*", "addPlace", Run.ARGUMENT);
    }

    private static void noOtherPlaceHasThisName() {
        Run x = start("no other place has this name").does("place a; place ab; place abcdefghijkl; place ............");
        x.refusedText("a", "addPlace", Run.ARGUMENT).refusedText("ab", "addPlace", Run.ARGUMENT);
        x.refusedText("abcdefghijkl", "addPlace", Run.ARGUMENT).refusedText("............", "addPlace", Run.ARGUMENT);
        x.does("text abc").due("addPlace", 4).does("text ba").due("addPlace", 5).does("text ...........")
                .due("addPlace", 6);
        x.does("text abcdefghijk.").due("addPlace", 7).does("text .bcdefghijkl").due("addPlace", 8);
        x.refusedText(".bcdefghijkl", "addPlace", Run.ARGUMENT).does("text b").due("addPlace", 9);
    }

    private static void patternsOf1To12() {
        Run x = start("A pattern consists of 1 to 12 characters, which are letters, dots, '?' or '*'");
        x.refused("addProbe 1", Run.ARGUMENT).does("place a; place .; place abcdefghijkl");
        x.does("text a").due("addProbe 1", 0).does("text ?").due("addProbe 1", 1).does("text *").due("addProbe 1", 2);
        x.does("text .").due("addProbe 1", 3).does("text abcdefghijk?").due("addProbe 1", 4);
        x.does("text *bcdefghijkl").refused("type *", Run.STATE).due("addProbe 1", 5);
        String[] answers = {"true false false", "true true false", "true true true", "false true false",
                "false false true",
            "false false true"};
        for (int probe = 0; probe < 6; probe++) {
            for (String call : new String[] {"matches ", "matchesByTable "}) {
                x.dueAll(call + probe + " 0; " + call + probe + " 1; " + call + probe + " 2", answers[probe]);
            }
        }
    }

    private static void expectMatches(String pattern, String names, boolean want) {
        for (String name : names.split(" ")) {
            Run x = new Run(check).does("place " + name + "; probe " + pattern + " 1");
            x.due("matches 0 0", want).due("matchesByTable 0 0", want).due("isConsistent", true);
        }
    }

    private static void eachQuestionMark() {
        check.about("replacing each '?' by one character");
        expectMatches("?", "a z .", true);
        expectMatches("?", "aa ... abcdefghijkl", false);
        expectMatches("a?", "aa az a.", true);
        expectMatches("a?", "a aaa ba", false);
        expectMatches("?a", "aa .a", true);
        expectMatches("?a", "a aaa ab", false);
        expectMatches("????????????", "abcdefghijkl", true);
        expectMatches("????????????", "abcdefghijk a", false);
        expectMatches("???????????", "abcdefghijkl", false);
    }

    private static void eachStar() {
        check.about("each '*' by any number of characters, including none");
        expectMatches("*", "a . abcdefghijkl", true);
        expectMatches("a*", "a ab abcdefghijkl", true);
        expectMatches("a*", "b ba", false);
        expectMatches("*l", "l abcdefghijkl ll", true);
        expectMatches("*l", "k lk", false);
        expectMatches("a*l", "al abcdefghijkl", true);
        expectMatches("a*l", "a l la alm", false);
        expectMatches("ab*b", "abb abab", true);
        expectMatches("ab*b", "ab aab", false);
        expectMatches("************", "a abcdefghijkl", true);
        expectMatches("*a*", "a ab ba bab", true);
        expectMatches("*a*", "b ...", false);
        expectMatches("*?", "a ab", true);
        expectMatches("?*?", "ab abc", true);
        expectMatches("?*?", "a", false);
        expectMatches("*a*b*c*", "abc aabbcc xaxbxcx", true);
        expectMatches("*a*b*c*", "acb cba ab", false);
        expectMatches("*ab*ab", "abab ababab abxab", true);
        expectMatches("*ab*ab", "ab aab abba", false);
    }

    /** What an earlier call found for longer patterns and names does not count for shorter ones. */
    private static void matchesBehindLongerOnes() {
        Run x = start("It matches a name if the name can be made from it")
                .does("place abcdefghijkl; place b; place aaaaaaaaaaab");
        x.does("probe ************ 1; probe a*b 1; probe b* 1; probe ???????????? 1");
        for (String call : new String[] {"matches ", "matchesByTable "}) {
            for (String pair : "1 1,2 0,3 1,1 0,2 2".split(",")) {
                x.due(call + "0 0", true).due(call + "0 2", true).due(call + pair, false);
            }
            for (String pair : "2 1,1 2,3 2,3 0".split(",")) {
                x.due(call + "0 0", true).due(call + "0 2", true).due(call + pair, true);
            }
        }
    }

    // ---- probes

    private static void sixProbes() {
        Run x = start("There are at most 6 probes, numbered from 0").does("place a").due("matches 0 0", Run.INDEX);
        for (int probe = 0; probe < 6; probe++) {
            x.does("text a").due("matches " + probe + " 0", Run.INDEX).due("addProbe 1", probe);
            x.due("matches " + probe + " 0", true);
        }
        x.refusedText("a", "addProbe 1", Run.STATE).due("matches 6 0", Run.INDEX);
        x.does("addProcessor 0 1; addProcess 999; hit 0 0 0").dueAll("fired 0; spent 0", "63 6");
    }

    private static void onUntilRemoved() {
        Run x = start("is on until it is removed; the number of a removed probe is not used again", 1, 0, 16);
        x.does("place a; addProcess 999; probe a 1; probe a 2").due("hit 0 0 0", 2);
        x.due("removeProbe 1", 1).due("hit 0 0 0", 1).due("fired 1", 1).does("text a").due("addProbe 4", 2);
        x.due("hit 0 0 0", 2).due("fired 2", 5).refused("removeProbe 1", Run.STATE);
        x.due("removeProbe 0", 1).due("removeProbe 2", 0).due("hit 0 0 0", 0).does("text a").due("addProbe 8", 3);
        x.due("hit 0 0 0", 1).due("fired 3", 8).due("removeProbe 3", 0).due("spent 0", 3 + 1 + 5 + 8);
        x.does("probe a 1").does("text a").due("addProbe 1", 5).refusedText("a", "addProbe 1", Run.STATE);
    }

    private static void costsFrom1To50() {
        Run x = start("A probe has a pattern and a cost from 1 to 50", 1, 0, 16).does("place a; addProcess 999");
        x.refusedText("a", "addProbe 0", Run.ARGUMENT).refusedText("a", "addProbe 51", Run.ARGUMENT);
        x.does("text a").due("addProbe 1", 0).does("hit 0 0 0").due("spent 0", 1);
        x.does("text a").due("addProbe 50", 1).does("hit 0 0 0").due("spent 0", 52).due("meanCost", 26.0);
    }

    private static void sumsOfTheGreatestCosts() {
        Run x = start("the sum of their costs is added to what the process has spent", 4, 0, 1).does("place a");
        x.does("probe a 50; probe * 50; probe ? 50; probe a* 50; probe *a 50; probe ?* 50");
        x.times(4, "addProcess 999");
        for (int hit = 0; hit < 60; hit++) {
            x.does(hit % 15 == 14 ? "pass 100" : "now").due("hit 0 0 " + hit % 4, 6).due("fired " + hit, 63);
        }
        x.dueAll("events; meanCost; dearest; spent 0; spentByEvents 0", "60 300.0 0 0 0");
        x.dueAll("spent 3; spentByEvents 3; isShed 0 3", "300 300 false").due("lostShare", 59.0f / 60.0f);
        Run y = start("It has spent more than its budget with the greatest costs", 1, 0, 16).does("place a");
        y.times(6, "probe a 50").does("addProcess 999").times(3, "hit 0 0 0").dueAll("spent 0; isShed 0 0", "900 false");
        y.due("hit 0 0 0", 6).dueAll("spent 0; spentByEvents 0; isShed 0 0; isShed 1 0", "1200 1200 true false");
        y.due("hit 0 0 0", 5).dueAll("spent 0; isShed 1 0", "1450 true").does("pass 100").due("hit 0 0 0", 6);
    }

    // ---- processes and budgets

    private static void fourProcesses() {
        Run x = start("There are at most 4 processes, numbered from 0");
        for (int process = 0; process < 4; process++) {
            x.due("spent " + process, Run.INDEX).due("addProcess 9", process).due("spent " + process, 0);
        }
        x.refused("addProcess 9", Run.STATE).due("spent 4", Run.INDEX);
    }

    private static void budgetsFrom0To999() {
        String sentence = "A process has a budget from 0 to 999 for each window";
        Run x = start(sentence, 1, 0, 16).refused("addProcess -1", Run.ARGUMENT)
                .refused("addProcess 1000", Run.ARGUMENT);
        x.does("addProcess 0; addProcess 999; place a; place b; probe a 1; probe b 50");
        x.does("hit 0 0 0").dueAll("spent 0; isShed 0 0; isShed 1 0", "1 true false");
        x.times(19, "hit 0 1 1").times(9, "hit 0 0 1").due("spent 1", 959);
        // 40 hits of cost 1 more are too many for 60 events, so the rest comes from a dearer probe.
        x.does("place c; probe c 40; hit 0 2 1")
                .dueAll("spent 1; isShed 0 1; isShed 1 1; isShed 2 1", "999 false false false");
        x.does("hit 0 0 1").dueAll("spent 1; isShed 0 1; isShed 1 1; isShed 2 1", "1000 true false false");
    }

    private static void allProbesFireThat() {
        String sentence = "all probes fire that are on, match the name of the place and are not shed for this process";
        Run x = start(sentence, 1, 0, 16);
        x.does("place a; place b; probe a 1; probe * 2; probe b 4; probe ? 8; addProcess 13; addProcess 999");
        x.due("hit 0 0 0", 3).due("fired 0", 1 + 2 + 8).due("hit 0 1 0", 3).due("fired 1", 2 + 4 + 8);
        x.due("spent 0", 25).due("isShed 3 0", true).due("hit 0 0 0", 2).due("fired 2", 1 + 2);
        x.does("removeProbe 0").due("hit 0 0 1", 2).due("fired 3", 2 + 8).due("spent 1", 10);
    }

    private static void moreThanTheBudget() {
        String sentence = "If it has spent more than its budget then, one is shed";
        Run less = start(sentence, 1, 0, 16).does("place a; probe a 3; probe a 2; addProcess 11; hit 0 0 0; hit 0 0 0");
        less.dueAll("spent 0; isShed 0 0; isShed 1 0", "10 false false");
        Run just = start(sentence, 1, 0, 16).does("place a; probe a 3; probe a 2; addProcess 10; hit 0 0 0; hit 0 0 0");
        just.dueAll("spent 0; isShed 0 0; isShed 1 0", "10 false false").due("hit 0 0 0", 2);
        just.dueAll("spent 0; isShed 0 0; isShed 1 0", "15 true false");
        Run more = start(sentence, 1, 0, 16).does("place a; probe a 3; probe a 2; addProcess 9; hit 0 0 0");
        more.due("isShed 0 0", false).does("hit 0 0 0").dueAll("spent 0; isShed 0 0; isShed 1 0", "10 true false");
        // Beyond the budget, each further hit sheds one more, until none fires.
        more.due("hit 0 0 0", 1).dueAll("spent 0; isShed 0 0; isShed 1 0", "12 true true").due("hit 0 0 0", 0);
        more.dueAll("spent 0; events", "12 3");
    }

    private static void mostExpensiveOfThoseThatFired() {
        String sentence = "the most expensive one of the probes that fired, of several the one with the lowest number";
        Run x = start(sentence, 1, 0, 16)
                .does("place a; place b; probe b 50; probe a 7; probe a 8; probe ? 8; probe * 1");
        x.does("addProcess 0; hit 0 0 0").due("fired 0", 2 + 4 + 8 + 16);
        x.dueAll("isShed 0 0; isShed 1 0; isShed 2 0; isShed 3 0; isShed 4 0", "false false true false false");
        x.does("hit 0 0 0").due("fired 1", 2 + 8 + 16);
        x.dueAll("isShed 0 0; isShed 1 0; isShed 2 0; isShed 3 0; isShed 4 0", "false false true true false");
        x.does("hit 0 1 0").due("fired 2", 1 + 16);
        x.dueAll("isShed 0 0; isShed 1 0; isShed 2 0; isShed 3 0; isShed 4 0", "true false true true false");
        Run first = start(sentence, 1, 0, 16).does("place a; probe a 1; probe a 1; probe a 1; addProcess 0; hit 0 0 0");
        first.dueAll("isShed 0 0; isShed 1 0; isShed 2 0", "true false false");
        Run last = start(sentence, 1, 0, 16)
                .does("place a; probe a 49; probe a 1; probe a 1; probe a 1; probe a 1; probe a 50");
        last.does("addProcess 0; hit 0 0 0").dueAll("isShed 0 0; isShed 1 0; isShed 5 0", "false false true");
        // A removed probe did not fire, so it is not the one that is shed.
        Run off = start(sentence, 1, 0, 16)
                .does("place a; probe a 9; probe a 1; removeProbe 0; addProcess 0; hit 0 0 0");
        off.dueAll("isShed 0 0; isShed 1 0", "false true");
    }

    private static void shedForThisProcess() {
        Run x = start("is shed for this process", 2, 0, 16)
                .does("place a; probe a 5; addProcess 4; addProcess 5; addProcess 4");
        x.does("hit 0 0 0; hit 0 0 1").dueAll("isShed 0 0; isShed 0 1; isShed 0 2", "true false false");
        x.due("hit 1 0 0", 0).due("hit 1 0 1", 1).due("hit 1 0 2", 1).due("events", 4);
        x.dueAll("isShed 0 0; isShed 0 1; isShed 0 2", "true true true");
        x.does("addProcess 0").due("isShed 0 3", false).due("hit 0 0 3", 1);
    }

    private static void budgetsForEachWindow() {
        Run x = start("When a window begins, all processes have spent nothing", 1, 0, 16);
        x.does("place a; probe a 5; addProcess 5; addProcess 10; addProcess 0; addProcess 999");
        x.does("hit 0 0 0; hit 0 0 1; hit 0 0 2; hit 0 0 3; pass 99");
        x.dueAll("spent 0; spent 1; spent 2; spent 3", "5 5 5 5");
        x.does("pass 1").dueAll("spent 0; spent 1; spent 2; spent 3", "0 0 0 0");
        x.dueAll("spentByEvents 0; spentByEvents 1; spentByEvents 2; spentByEvents 3", "0 0 0 0");
        x.does("hit 0 0 0").dueAll("spent 0; isShed 0 0", "5 false").does("hit 0 0 0")
                .dueAll("spent 0; isShed 0 0", "10 true");
        x.dueAll("spentByEvents 0; spentByEvents 1; dearest; meanCost", "10 0 0 5.0");
    }

    private static void noProbeIsShedInANewWindow() {
        Run x = start("When a window begins, no probe is shed", 1, 0, 16);
        x.does("place a; probe a 5; probe a 4; addProcess 0; addProcess 5; pass 98");
        x.does("hit 0 0 0; hit 0 0 0; hit 0 0 1")
                .dueAll("isShed 0 0; isShed 1 0; isShed 0 1; isShed 1 1", "true true true false");
        x.does("pass 1").dueAll("now; isShed 0 0; isShed 1 0; isShed 0 1", "99 true true true").due("hit 0 0 0", 0);
        x.does("pass 1").dueAll("now; isShed 0 0; isShed 1 0; isShed 0 1", "100 false false false").due("hit 0 0 0", 2);
        x.dueAll("isShed 0 0; isShed 1 0", "true false").does("pass 200").dueAll("isShed 0 0; now", "false 300");
        x.does("pass 99; hit 0 0 0; removeProbe 0").dueAll("isShed 0 0; isShed 1 0", "true false");
        x.does("pass 1").dueAll("isShed 0 0; isShed 1 0", "false false").due("hit 0 0 0", 1);
        x.does("pass 200; pass 200; pass 199").due("hit 0 0 0", 1).dueAll("now; isShed 1 0", "999 true");
        x.does("pass 1").dueAll("now; isShed 1 0", "1000 false").due("hit 0 0 0", 1);
    }

    // ---- events and messages

    private static void sixtyEvents() {
        String sentence = "There are at most 60 events, numbered from 0 in the order in which they happen";
        for (String last : new String[] {"hit 0 0 0", "send 1", "receive 3 1"}) {
            check.about(sentence);
            Run x = States.withPairs(check, 10).times(39, "hit 1 0 0").due("events", 59).due("kind 59", Run.INDEX);
            x.does(last).due("events", 60).due("kind 59", last.charAt(0)).due("kind 60", Run.INDEX);
            x.refused("hit 0 0 0", Run.STATE).refused("send 0", Run.STATE).refused("receive 4 1", Run.STATE);
            x.dueAll("kind 0; kind 1; kind 18; kind 19; kind 20; processorOf 19; processorOf 20", "s h s h h 0 1");
        }
        Run y = start(sentence, 2, 0, 16).due("events", 0).due("kind 0", Run.INDEX).does("send 0").due("events", 1);
        y.due("receive 0 1", 1).dueAll("kind 0; kind 1; kind 2", "s r " + Run.INDEX);
    }

    private static void hitsInWhichAProbeFires() {
        Run x = start("a hit 'h' in which at least one probe fires", 1, 0, 16)
                .does("place a; place b; probe b 5; addProcess 9");
        x.due("hit 0 0 0", 0).dueAll("events; kept 0; spent 0; keptEvents; mark 0", "0 0 0 0 0").due("hit 0 1 0", 1);
        x.dueAll("events; kept 0; spent 0; keptEvents; mark 0; kind 0; fired 0", "1 1 5 1 1 h 1");
        x.does("removeProbe 0").due("hit 0 1 0", 0).dueAll("events; spent 0; meanCost", "1 5 5.0");
    }

    private static void localTimeIsWhatTheClockShows() {
        Run x = start("its local time is what the clock of this processor shows")
                .does("addProcessor 500 16; addProcessor 3 16");
        x.does("place a; probe a 1; addProcess 9; hit 1 0 0; send 0; pass 200; hit 1 0 0; receive 0 1; send 0");
        x.dueAll("localTime 0; localTime 1; localTime 2; localTime 3; localTime 4", "3 500 203 203 700");
        x.does("pass 200").dueAll("localTime 0; localTime 4", "3 700");
    }

    private static void twentyMessages() {
        Run x = start("There are at most 20 messages, numbered from 0", 2, 0, 16).due("receive 0 1", Run.INDEX);
        for (int message = 0; message < 20; message++) {
            x.due("send " + message % 2, message).due("receive " + (message + 1) + " 0", Run.INDEX);
        }
        x.due("events", 20).refused("send 0", Run.STATE).refused("send 1", Run.STATE);
        x.due("receive 0 1", 20).due("receive 19 0", 21).refused("send 0", Run.STATE);
    }

    private static void receivedAtMostOnce() {
        Run x = start("each is sent once and received at most once", 3, 0, 16)
                .does("send 0; send 0; send 1; receive 0 1");
        x.refused("receive 0 1", Run.STATE).refused("receive 0 2", Run.STATE).refused("receive 0 0", Run.STATE);
        x.due("receive 1 2", 4).refused("receive 1 1", Run.STATE).due("receive 2 0", 5);
    }

    // ---- causes

    private static void dueCauses(Run x, int event, int other, boolean want) {
        x.due("causes " + event + " " + other, want).due("causesByPairs " + event + " " + other, want);
    }

    private static void doesNotCauseItself() {
        Run x = start("it does not cause itself", 2, 0, 1).does("send 0; receive 0 1; send 1; receive 1 0");
        for (int event = 0; event < 4; event++) {
            dueCauses(x, event, event, false);
        }
        // There and back again, there is still no way from an event to itself or to an earlier one.
        dueCauses(x, 0, 3, true);
        dueCauses(x, 3, 0, false);
    }

    private static void causesDirectly() {
        Run x = start("causes another one directly if both happen on the same processor and it has the lower number,"
                + " or if it sends a message that the other one receives", 3, 0, 16);
        x.does("send 0; send 0; send 1; receive 1 2; receive 0 1");
        dueCauses(x, 0, 1, true);
        dueCauses(x, 1, 0, false);
        dueCauses(x, 0, 2, false);
        dueCauses(x, 1, 3, true);
        dueCauses(x, 0, 4, true);
        dueCauses(x, 1, 4, false);
        dueCauses(x, 2, 4, true);
        dueCauses(x, 2, 3, false);
        dueCauses(x, 3, 4, false);
        dueCauses(x, 4, 0, false);
    }

    private static void causesInSequence() {
        Run x = start("It causes an event if there is a sequence of events from the one to the other", 4, 0, 1);
        x.does("send 0; receive 0 1; send 1; receive 1 2; send 2; receive 2 3; send 3; send 0; send 1");
        for (int event = 0; event < 6; event++) {
            dueCauses(x, event, 6, true);
            dueCauses(x, 6, event, false);
        }
        dueCauses(x, 7, 6, false);
        dueCauses(x, 2, 8, true);
        dueCauses(x, 3, 8, false);
        dueCauses(x, 0, 8, true);
    }

    // ---- rings

    private static void capacities1To16() {
        String sentence = "Each processor has a ring with a capacity of 1 to 16 events";
        for (int capacity = 1; capacity <= 16; capacity++) {
            Run x = start(sentence, 1, 0, capacity).due("kept 0", 0).due("keptAt 0 0", Run.ELEMENT);
            x.times(capacity, "send 0").dueAll("kept 0; lost 0; keptAt 0 0", capacity + " 0 0");
            x.due("keptAt 0 " + (capacity - 1), capacity - 1).due("keptAt 0 " + capacity, Run.ELEMENT);
            x.does("send 0").dueAll("kept 0; lost 0; keptAt 0 0", capacity + " 1 1");
            x.due("keptAt 0 " + (capacity - 1), capacity).due("keptAt 0 " + capacity, Run.ELEMENT);
        }
        start(sentence).refused("addProcessor 0 0", Run.ARGUMENT).refused("addProcessor 0 17", Run.ARGUMENT);
    }

    private static void oldestEventIsLost() {
        String sentence = "if the ring is full, its oldest event is lost";
        for (int capacity = 1; capacity <= 16; capacity += 5) {
            Run x = start(sentence, 2, 0, capacity).does("place a; probe a 1; addProcess 999");
            for (int event = 0; event < 60; event++) {
                x.does("hit 0 0 0");
                if (event % 7 == 6 || event > 57) {
                    int kept = Math.min(capacity, event + 1);
                    x.dueAll("keptAt 0 0; kept 0; lost 0; keptEvents",
                            event + 1 - kept + " " + kept + " " + (event + 1 - kept) + " " + kept);
                    x.due("keptAt 0 " + (kept - 1), event).due("kept 1", 0);
                }
            }
            x.dueAll("gap 0; mark 0; gap 0; lost 1; merged 0", 60 - capacity + " 60 0 0 " + (60 - capacity));
        }
    }

    private static void markBeforeAllEvents() {
        String sentence = "until it is marked, its mark is at its beginning, before all events of the processor";
        Run x = start(sentence, 2, 0, 2).dueAll("gap 0; mark 1", "0 0").does("send 0; send 0").due("gap 0", 0);
        x.does("send 0").due("gap 0", 1).does("send 0").due("gap 0", 2).due("mark 0", 4).dueAll("gap 0; mark 0", "0 0");
        // Behind the mark two events fit without a gap; the third one makes the first of them lost.
        x.does("send 0; send 0").dueAll("lost 0; gap 0", "4 0").does("send 0").dueAll("lost 0; gap 0", "5 1")
                .due("mark 0", 3);
        x.does("send 1; send 1; send 1").dueAll("gap 1; mark 1; gap 1; mark 1; gap 0; mark 0", "1 3 0 0 0 0");
        // A mark in an empty ring changes nothing.
        Run y = start(sentence, 1, 0, 1).due("mark 0", 0).does("send 0").due("gap 0", 0).does("send 0")
                .dueAll("gap 0; mark 0", "1 2");
    }

    // ---- clocks in line

    private static void differencesOfClocks() {
        String sentence = "the offset of q minus the offset of p is at most r - s";
        Run x = start(sentence).does("addProcessor 0 1; addProcessor 500 1; exchange 0 1 0; exchange 1 0 0");
        x.dueAll("bound 0 1; bound 1 0", "500 -500");
        Run y = start(sentence).does("addProcessor 500 1; addProcessor 0 1; send 0; send 1").times(5, "pass 200");
        y.does("receive 0 1; receive 1 0").dueAll("bound 0 1; bound 1 0", "500 1500");
    }

    private static void leastSum() {
        String sentence = "the least sum of such differences along a sequence of received messages";
        Run x = start(sentence, 4, 0, 1).does("exchange 0 3 9").due("bound 0 3", 9).does("exchange 0 3 10")
                .due("bound 0 3", 9);
        x.does("exchange 0 3 8").due("bound 0 3", 8).does("exchange 0 1 2; exchange 1 2 3").due("bound 0 3", 8);
        x.does("exchange 2 3 3").due("bound 0 3", 8).does("exchange 2 3 2").due("bound 0 3", 7).due("bound 1 3", 5);
        x.does("exchange 0 2 4").dueAll("bound 0 2; bound 0 3", "4 6").does("exchange 0 3 6").due("bound 0 3", 6);
        x.does("exchange 3 0 0").dueAll("bound 3 0; bound 2 1; bound 1 0; bound 3 2", "0 4 5 4");
        // The order of the messages does not count: the last one of the sequence was received first.
        Run y = start(sentence, 4, 0, 1).does("exchange 2 3 1; exchange 1 2 2; exchange 0 1 4");
        y.dueAll("bound 0 1; bound 0 2; bound 0 3; bound 1 3", "4 6 7 3");
    }

    private static void noBound() {
        Run x = start("there is no bound if there is no such sequence", 4, 0, 1).due("bound 0 1", Run.ELEMENT)
                .does("send 0");
        x.due("bound 0 1", Run.ELEMENT).does("receive 0 1").dueAll("bound 0 1; bound 1 0", "0 " + Run.ELEMENT);
        x.dueAll("bound 0 2; bound 1 2; bound 2 1", Run.ELEMENT + " " + Run.ELEMENT + " " + Run.ELEMENT);
        x.does("exchange 2 3 1").dueAll("bound 0 3; bound 1 3; bound 2 3", Run.ELEMENT + " " + Run.ELEMENT + " 1");
        x.does("send 1").due("bound 0 3", Run.ELEMENT).does("receive 2 2")
                .dueAll("bound 0 3; bound 0 2; bound 1 3", "1 0 1");
        x.dueAll("bound 3 0; bound 3 2; bound 2 0", Run.ELEMENT + " " + Run.ELEMENT + " " + Run.ELEMENT);
        x.dueAll("bound 0 0; bound 3 3", Run.ELEMENT + " " + Run.ELEMENT);
    }

    private static void correctionOfProcessor0() {
        Run x = start("The correction of the processor 0 is 0").does("addProcessor 77 16").due("correction 0", 0);
        x.does("addProcessor 0 16; exchange 0 1 5").due("correction 0", 0).does("exchange 1 0 8")
                .due("correction 0", 0);
    }

    private static void correctionsByTheBoundsThatExist() {
        Run both = start("If both exist, the correction is b minus c, divided by 2", 2, 0, 1);
        both.does("exchange 0 1 9; exchange 1 0 3").dueAll("bound 0 1; bound 1 0; correction 1", "9 3 3");
        Run there = start("if only b exists, it is b", 2, 0, 1).does("exchange 0 1 9").due("correction 1", 9);
        there.does("exchange 0 1 4").due("correction 1", 4).does("exchange 0 1 5").due("correction 1", 4);
        Run back = start("if only c exists, it is minus c", 2, 0, 1).does("exchange 1 0 9").due("correction 1", -9);
        back.does("exchange 1 0 4").due("correction 1", -4).does("exchange 1 0 0").due("correction 1", 0);
        Run none = start("otherwise it is 0", 4, 5, 1).dueAll("correction 1; correction 3", "0 0");
        none.does("send 0; pass 3").due("correction 1", 0).does("exchange 2 3 3")
                .dueAll("correction 2; correction 3", "0 0");
        Run far = start("the bound from 0 to q and the bound from q to 0, along sequences", 4, 0, 1);
        far.does("exchange 0 1 1; exchange 1 2 2; exchange 2 3 4")
                .dueAll("correction 1; correction 2; correction 3", "1 3 7");
        far.does("exchange 3 0 0").dueAll("correction 1; correction 2; correction 3", "-3 -1 3");
    }

    private static void correctionsRoundedDown() {
        String sentence = "rounded down, also below 0 (-3 divided by 2 gives -2)";
        int[] wants = {-2, -2, -1, -1, 0, 0, 1, 1, 2};
        for (int difference = -4; difference <= 4; difference++) {
            int there = 4 + difference;
            Run x = start(sentence, 2, 0, 1).does("exchange 0 1 " + there + "; exchange 1 0 4");
            x.due("correction 1", wants[difference + 4]);
            Run y = start(sentence)
                    .does("addProcessor 500 1; addProcessor 0 1; exchange 0 1 " + there + "; exchange 1 0 4");
            y.due("correction 1", -500 + wants[difference + 4]);
        }
    }

    private static void correctedTimes() {
        String sentence = "The corrected time of an event is its local time minus the correction of its processor";
        Run x = start(sentence).does("addProcessor 500 1; addProcessor 0 1; send 0; send 1");
        x.dueAll("correctedTime 0; correctedTime 1", "500 0").does("pass 3; receive 0 1").due("correction 1", -497);
        x.dueAll("correctedTime 0; correctedTime 1; correctedTime 2", "500 497 500");
        x.does("pass 2; receive 1 0").due("correction 1", -501)
                .dueAll("correctedTime 1; correctedTime 2; correctedTime 3", "501 504 505");
        Run y = start(sentence).does("addProcessor 0 1; addProcessor 0 1; send 1").times(5, "pass 200")
                .does("receive 0 0");
        y.dueAll("correction 1; correctedTime 0; correctedTime 1", "-1000 1000 1000");
        Run below = start(sentence).does("addProcessor 0 1; addProcessor 500 1; send 1; exchange 0 1 100");
        below.dueAll("correction 1; correctedTime 0; correctedTime 1; correctedTime 2", "600 -100 0 0");
    }

    // ---- the merged order

    private static void dueOrder(Run x, String want) {
        StringBuilder calls = new StringBuilder();
        int kept = want.split(" ").length;
        for (int index = 0; index < kept; index++) {
            calls.append("merged ").append(index).append("; ");
        }
        x.dueAll(calls + "keptEvents", want + " " + kept).due("merged " + kept, Run.INDEX);
    }

    private static void leastCorrectedTime() {
        Run x = start("the one with the least corrected time is next").due("merged 0", Run.INDEX);
        x.does("addProcessor 5 16; addProcessor 4 16; addProcessor 6 16; send 2; send 0; send 1");
        dueOrder(x, "2 1 0");
        x.does("pass 1; send 1; pass 1; send 1");
        dueOrder(x, "2 1 3 0 4");
    }

    private static void lowestNumber() {
        String sentence = "of several such events the one with the lowest number";
        Run x = start(sentence)
                .does("addProcessor 5 16; addProcessor 6 16; addProcessor 5 16; send 1; send 2; send 0; pass 1");
        dueOrder(x.does("send 0"), "1 2 0 3");
        dueOrder(x.does("send 2; send 1"), "1 2 0 3 4 5");
        // Corrected times can become equal by a correction.
        Run y = start(sentence).does("addProcessor 0 16; addProcessor 9 16; send 1; pass 9; send 0; send 0");
        dueOrder(y, "0 1 2");
        y.does("receive 1 1").due("correction 1", 9);
        dueOrder(y, "0 1 2 3");
        Run z = start(sentence).does("addProcessor 9 16; addProcessor 0 16; send 0; send 1; exchange 0 1 0");
        z.dueAll("correctedTime 0; correctedTime 1; correctedTime 2; correctedTime 3", "9 9 9 9");
        dueOrder(z, "0 1 2 3");
    }

    private static void keptEventsThatCauseThem() {
        String sentence = "of which all kept events that cause them are in it";
        // An effect whose corrected time is before that of its cause, or the same.
        Run x = start(sentence)
                .does("addProcessor 0 16; addProcessor 10 16; addProcessor 9 16; send 1; receive 0 2; send 0");
        dueOrder(x, "2 0 1");
        Run y = start(sentence)
                .does("addProcessor 0 16; addProcessor 10 16; addProcessor 9 16; send 1; pass 1; receive 0 2; send 0");
        dueOrder(y, "2 0 1");
        // A cause through lost events is a cause; a lost cause is not waited for.
        Run z = start(sentence)
                .does("addProcessor 0 16; addProcessor 500 16; addProcessor 0 1; send 1; receive 0 2; send 2; send 0");
        dueOrder(z, "3 0 2");
        Run lost = start(sentence)
                .does("addProcessor 0 16; addProcessor 500 1; addProcessor 0 1; send 1; receive 0 2; send 1; send 0");
        dueOrder(lost, "1 3 2");
    }

    // ---- replay

    private static void replayOfTheOrderAsItWas() {
        Run x = start("A replay goes through the merged order as it was when the replay was started", 1, 0, 2);
        x.due("replay", 0).due("position", 0).does("place a; wish 0 true; probe a 1; addProcess 999; hit 0 0 0");
        x.due("next", Run.ELEMENT).due("position", 0).due("replay", 1).does("hit 0 0 0; hit 0 0 0");
        x.due("next", 0).due("next", Run.ELEMENT).due("position", 1).due("replay", 2).due("position", 0);
        x.due("next", 1).due("next", 2).due("next", Run.ELEMENT).due("position", 2);
        Run y = start("A replay of 60 events").times(4, "addProcessor 0 16")
                .does("place a; wish 0 true; probe a 1; addProcess 999");
        y.times(15, "hit 0 0 0").times(15, "hit 1 0 0").times(15, "hit 2 0 0").times(15, "hit 3 0 0").due("replay", 60);
        for (int event = 0; event < 60; event++) {
            y.due("next", event);
        }
        y.due("position", 60).due("next", Run.ELEMENT).due("position", 60);
    }

    private static void placesWishedNow() {
        Run x = start("Goes on in the replay, to the next hit of a place that is wished now", 1, 0, 16);
        x.does("place a; place b; probe * 1; addProcess 999");
        x.does("hit 0 0 0; hit 0 1 0; send 0; hit 0 0 0; hit 0 1 0; replay");
        x.due("next", Run.ELEMENT).due("position", 0).due("wish 1 true", false).due("next", 1).due("position", 2);
        x.due("wish 1 false", true).due("next", Run.ELEMENT).due("position", 2).does("wish 0 true").due("next", 3);
        x.due("position", 4).due("next", Run.ELEMENT).due("wish 1 true", false).due("next", 4).due("position", 5);
    }

    // ---- promise 42

    private static void fingerprintOverflows() {
        check.about("all of this is computed in longs, which overflow");
        for (int events : new int[] {0, 1, 9, 10, 11, 12, 20, 60}) {
            Run x = new Run(check).times(4, "addProcessor 0 16").does("place a; probe a 1; addProcess 999");
            BigInteger number = BigInteger.valueOf(7);
            for (int event = 0; event < events; event++) {
                x.does("hit " + event % 4 + " 0 0");
                number = number.multiply(BigInteger.valueOf(61)).add(BigInteger.valueOf(event));
            }
            boolean isOverflow = number.bitLength() > 63;
            check.due(events + " events overflow", events > 10, () -> isOverflow);
            x.due("fingerprint", number.longValue());
        }
    }

    // ---- promise 43

    private static void consistentAtTheLimits() {
        start("Returns true if the invariants hold, for a new object").due("isConsistent", true);
        check.about("Returns true if the invariants hold, at all limits");
        States.full(check).due("isConsistent", true).does("pass 200").due("isConsistent", true);
        check.about("Returns true if the invariants hold, behind refused calls");
        Run x = States.rich(check).due("isConsistent", true).due("receive 0 0", Run.STATE).due("hit 3 0 0", Run.INDEX);
        x.due("receive 4 2", Run.UNSUPPORTED).due("addProbe 0", Run.ARGUMENT).due("isConsistent", true);
        x.times(20, "hit 0 0 1").due("isConsistent", true).does("exchange 1 0 100").due("isConsistent", true);
    }
}
