/** The edges of the clocks: promises 1 to 4, and what the terms say of sensors and clocks. */
final class ClockEdges {
    private static final Class<IndexOutOfBoundsException> NO_INDEX = IndexOutOfBoundsException.class;
    private static final Class<IllegalArgumentException> WRONG = IllegalArgumentException.class;
    static final int[] NO_SENSORS = {-1, 4, Integer.MIN_VALUE, Integer.MAX_VALUE};
    static final int[] NO_SENSOR_TIMES = {-1, 10000, Integer.MIN_VALUE, Integer.MAX_VALUE};

    private ClockEdges() {
    }

    private static void dueTimes(Edges edges, TrackFusion fusion, int sensor, int[]... rows) {
        for (int[] row : rows) {
            edges.due("correctedTime(" + sensor + ", " + row[0] + ")", fusion.correctedTime(sensor, row[0]), row[1]);
        }
    }

    private static TrackFusion withPairs(int sensor, int... times) {
        TrackFusion fusion = new TrackFusion();
        Runs.addPairs(fusion, sensor, times);
        return fusion;
    }

    @Sentence(of = "Terms: Sensors and clocks", says = "There are 4 sensors, numbered from 0")
    static void termsSensors(Edges edges) {
        for (int sensor : new int[] {0, 3}) {
            TrackFusion fusion = new TrackFusion();
            edges.due("addPair of " + sensor, fusion.addPair(sensor, 10, 12), 1);
            edges.due("correctedTime of " + sensor, fusion.correctedTime(sensor, 10), 12);
            edges.due("report of " + sensor, fusion.report(sensor, 10, 0, 0), 0);
            edges.due("forgetPairs of " + sensor, fusion.forgetPairs(sensor), 1);
        }
        for (int sensor : new int[] {-1, 4}) {
            TrackFusion fusion = new TrackFusion();
            edges.dueThrow("addPair of " + sensor, NO_INDEX, () -> fusion.addPair(sensor, 10, 12));
            edges.dueThrow("correctedTime of " + sensor, NO_INDEX, () -> fusion.correctedTime(sensor, 10));
            edges.dueThrow("report of " + sensor, NO_INDEX, () -> fusion.report(sensor, 10, 0, 0));
            edges.dueThrow("forgetPairs of " + sensor, NO_INDEX, () -> fusion.forgetPairs(sensor));
        }
    }

    @Sentence(of = "Terms: Sensors and clocks", says = "of which the latest two are kept")
    static void termsLatestTwoPairs(Edges edges) {
        TrackFusion fusion = withPairs(0, 0, 0, 10, 20);
        dueTimes(edges, fusion, 0, new int[] {0, 0}, new int[] {5, 10}, new int[] {10, 20});
        fusion.addPair(0, 20, 30);
        dueTimes(edges, fusion, 0, new int[] {0, 10}, new int[] {10, 20}, new int[] {25, 35});
        fusion.addPair(0, 30, 35);
        dueTimes(edges, fusion, 0, new int[] {0, 20}, new int[] {10, 25}, new int[] {20, 30}, new int[] {40, 40});
        edges.due("forgetPairs(0) after four pairs", fusion.forgetPairs(0), 2);
        dueTimes(edges, fusion, 0, new int[] {40, 40}, new int[] {7, 7});
    }

    @Sentence(of = "Terms: Sensors and clocks",
        says = "The corrected time for a time of the sensor is this time itself if there are no pairs")
    static void termsNoPairs(Edges edges) {
        TrackFusion fusion = withPairs(1, 100, 900);
        for (int sensor : new int[] {0, 2, 3}) {
            dueTimes(edges, fusion, sensor, new int[] {0, 0}, new int[] {1, 1}, new int[] {9999, 9999});
        }
        fusion.forgetPairs(1);
        dueTimes(edges, fusion, 1, new int[] {0, 0}, new int[] {100, 100}, new int[] {9999, 9999});
    }

    @Sentence(of = "Terms: Sensors and clocks",
        says = "with one pair, it is this time plus the true time minus the time of the sensor in the pair")
    static void termsOnePair(Edges edges) {
        dueTimes(edges, withPairs(0, 100, 107), 0, new int[] {0, 7}, new int[] {99, 106}, new int[] {100, 107},
            new int[] {101, 108}, new int[] {9999, 10006});
        dueTimes(edges, withPairs(3, 107, 100), 3, new int[] {0, -7}, new int[] {7, 0}, new int[] {107, 100},
            new int[] {9999, 9992});
        dueTimes(edges, withPairs(1, 9999, 0), 1, new int[] {0, -9999}, new int[] {9999, 0});
        dueTimes(edges, withPairs(2, 0, 9999), 2, new int[] {0, 9999}, new int[] {9999, 19998});
    }

    @Sentence(of = "Terms: Sensors and clocks",
        says = "with two pairs, it is the true time of the later one, plus the product of (this time minus the time of "
            + "the sensor in the later one) and (the difference of both true times), divided by the difference of both "
            + "times of the sensor")
    static void termsTwoPairs(Edges edges) {
        dueTimes(edges, withPairs(0, 100, 1000, 200, 1100), 0, new int[] {0, 900}, new int[] {100, 1000},
            new int[] {150, 1050}, new int[] {200, 1100}, new int[] {9999, 10899});
        dueTimes(edges, withPairs(1, 10, 50, 30, 60), 1, new int[] {10, 50}, new int[] {20, 55}, new int[] {30, 60},
            new int[] {32, 61}, new int[] {0, 45});
        dueTimes(edges, withPairs(2, 10, 50, 30, 90), 2, new int[] {0, 30}, new int[] {10, 50}, new int[] {11, 52},
            new int[] {30, 90}, new int[] {9999, 20028});
        dueTimes(edges, withPairs(3, 0, 0, 9999, 9999), 3, new int[] {0, 0}, new int[] {1, 1}, new int[] {9999, 9999});
    }

    @Sentence(of = "Terms: Sensors and clocks", says = "this quotient rounded down, also if it is negative")
    static void termsQuotientRoundedDown(Edges edges) {
        dueTimes(edges, withPairs(0, 0, 100, 3, 104), 0, new int[] {0, 100}, new int[] {1, 101}, new int[] {2, 102},
            new int[] {3, 104}, new int[] {4, 105}, new int[] {5, 106}, new int[] {6, 108}, new int[] {7, 109});
        dueTimes(edges, withPairs(1, 10, 50, 30, 60), 1, new int[] {31, 60}, new int[] {32, 61}, new int[] {33, 61},
            new int[] {29, 59}, new int[] {28, 59}, new int[] {27, 58});
        dueTimes(edges, withPairs(2, 5000, 0, 9999, 2500), 2, new int[] {9998, 2499}, new int[] {9997, 2498},
            new int[] {5000, 0}, new int[] {4999, -1}, new int[] {4998, -2}, new int[] {0, -2501});
    }

    @Sentence(of = "Promise 1", says = "Creates a fusion without pairs, reports and tracks")
    static void promise1NewObject(Edges edges) {
        TrackFusion used = Scene.BUSY.make();
        edges.due("tracks() of another object", used.tracks(), 5);
        TrackFusion fusion = new TrackFusion();
        for (int sensor = 0; sensor < 4; sensor++) {
            edges.due("correctedTime(" + sensor + ", 9999)", fusion.correctedTime(sensor, 9999), 9999);
            edges.due("forgetPairs(" + sensor + ")", fusion.forgetPairs(sensor), 0);
        }
        edges.due("batch()", fusion.batch(), 0);
        edges.due("clearBatch()", fusion.clearBatch(), 0);
        edges.due("bestCost()", fusion.bestCost(), 0L);
        edges.due("bestCostByTrying()", fusion.bestCostByTrying(), 0L);
        edges.due("tracks()", fusion.tracks(), 0);
        edges.due("liveTracks()", fusion.liveTracks(), 0);
        for (char sign : "nhxlmg".toCharArray()) {
            edges.due("countOf('" + sign + "')", fusion.countOf(sign), 0);
        }
        edges.due("dropped()", fusion.dropped(), 0);
        edges.due("isBalanced()", fusion.isBalanced(), true);
        edges.dueThrow("status(0)", NO_INDEX, () -> fusion.status(0));
        edges.dueThrow("goesTo(0)", NO_INDEX, () -> fusion.goesTo(0));
        edges.dueThrow("process()", IllegalStateException.class, fusion::process);
        edges.dueThrow("takenShare()", ArithmeticException.class, fusion::takenShare);
        edges.dueThrow("meanHits()", ArithmeticException.class, fusion::meanHits);
    }

    @Sentence(of = "Promise 2", says = "`time`: the time of the sensor, 0 to 9999")
    static void promise2Time(Edges edges) {
        edges.due("addPair(0, 0, 5)", new TrackFusion().addPair(0, 0, 5), 1);
        edges.due("addPair(0, 9999, 5)", new TrackFusion().addPair(0, 9999, 5), 1);
        edges.due("addPair(0, 9999, 9998) behind 9998", withPairs(0, 9998, 9997).addPair(0, 9999, 9998), 2);
        for (int time : NO_SENSOR_TIMES) {
            edges.refused("addPair(0, " + time + ", 5)", WRONG, fusion -> fusion.addPair(0, time, 5));
        }
        TrackFusion fusion = withPairs(0, 9999, 100);
        edges.dueThrow("addPair(0, 10000, 101)", WRONG, () -> fusion.addPair(0, 10000, 101));
        edges.due("forgetPairs(0)", fusion.forgetPairs(0), 1);
    }

    @Sentence(of = "Promise 2", says = "`trueTime`: the true time, 0 to 9999")
    static void promise2TrueTime(Edges edges) {
        edges.due("addPair(0, 5, 0)", new TrackFusion().addPair(0, 5, 0), 1);
        edges.due("addPair(0, 5, 9999)", new TrackFusion().addPair(0, 5, 9999), 1);
        edges.due("addPair(0, 101, 9999) behind 9998", withPairs(0, 100, 9998).addPair(0, 101, 9999), 2);
        for (int time : NO_SENSOR_TIMES) {
            edges.refused("addPair(0, 5, " + time + ")", WRONG, fusion -> fusion.addPair(0, 5, time));
        }
        TrackFusion fusion = withPairs(0, 100, 9999);
        edges.dueThrow("addPair(0, 101, 10000)", WRONG, () -> fusion.addPair(0, 101, 10000));
        edges.due("forgetPairs(0)", fusion.forgetPairs(0), 1);
    }

    @Sentence(of = "Promise 2", says = "Returns the number of pairs that are kept for the sensor then, 1 or 2")
    static void promise2Returns(Edges edges) {
        TrackFusion fusion = new TrackFusion();
        edges.due("the first pair of 0", fusion.addPair(0, 10, 10), 1);
        edges.due("the second pair of 0", fusion.addPair(0, 20, 20), 2);
        edges.due("the third pair of 0", fusion.addPair(0, 30, 30), 2);
        edges.due("the fourth pair of 0", fusion.addPair(0, 40, 40), 2);
        edges.due("the first pair of 3", fusion.addPair(3, 10, 10), 1);
        fusion.forgetPairs(0);
        edges.due("the first pair of 0 again", fusion.addPair(0, 50, 50), 1);
        edges.due("the second pair of 3", fusion.addPair(3, 20, 20), 2);
    }

    @Sentence(of = "Promise 2", says = "Throws `IndexOutOfBoundsException` if there is no such sensor")
    static void promise2NoSuchSensor(Edges edges) {
        for (int sensor : new int[] {0, 1, 2, 3}) {
            edges.due("addPair(" + sensor + ", 5, 5)", new TrackFusion().addPair(sensor, 5, 5), 1);
        }
        for (int sensor : NO_SENSORS) {
            edges.refused("addPair(" + sensor + ", 900, 900)", NO_INDEX, fusion -> fusion.addPair(sensor, 900, 900));
        }
    }

    @Sentence(of = "Promise 2", says = "Throws `IllegalArgumentException` if a time is out of range")
    static void promise2TimeOutOfRange(Edges edges) {
        int[][] wrongPairs = {{-1, -1}, {-1, 0}, {0, -1}, {10000, 10000}, {10000, 9999}, {9999, 10000},
            {Integer.MIN_VALUE, Integer.MAX_VALUE}, {Integer.MAX_VALUE, Integer.MIN_VALUE}};
        for (int[] pair : wrongPairs) {
            for (int sensor = 0; sensor < 4; sensor++) {
                int of = sensor;
                edges.refused("addPair(" + of + ", " + pair[0] + ", " + pair[1] + ")", WRONG,
                    fusion -> fusion.addPair(of, pair[0], pair[1]));
            }
        }
        edges.due("addPair(0, 0, 0)", new TrackFusion().addPair(0, 0, 0), 1);
        edges.due("addPair(0, 9999, 9999)", new TrackFusion().addPair(0, 9999, 9999), 1);
    }

    @Sentence(of = "Promise 2", says = "or there is a pair already, and")
    static void promise2PairAlready(Edges edges) {
        TrackFusion fusion = withPairs(0, 5000, 5000);
        edges.dueThrow("addPair(0, 4000, 9000)", WRONG, () -> fusion.addPair(0, 4000, 9000));
        edges.due("another sensor has none", fusion.addPair(1, 4000, 9000), 1);
        fusion.forgetPairs(0);
        edges.due("a forgotten one is none", fusion.addPair(0, 4000, 9000), 1);
        edges.dueThrow("addPair(0, 4001, 9003)", WRONG, () -> fusion.addPair(0, 4001, 9003));
        edges.due("addPair(0, 4001, 9002)", fusion.addPair(0, 4001, 9002), 2);
    }

    /** Each row: how much time of the sensor and true time is behind the latest pair, and whether that is a pair. */
    private static void duePairs(Edges edges, int[]... rows) {
        for (int[] row : rows) {
            String call = "addPair, by " + row[0] + " and " + row[1] + " later";
            TrackFusion one = withPairs(2, 5000, 4000);
            TrackFusion two = withPairs(2, 4800, 3800, 5000, 4000);
            if (row[2] == 1) {
                edges.due(call + " than one", one.addPair(2, 5000 + row[0], 4000 + row[1]), 2);
                edges.due(call + " than two", two.addPair(2, 5000 + row[0], 4000 + row[1]), 2);
            } else {
                edges.dueThrow(call + " than one", WRONG, () -> one.addPair(2, 5000 + row[0], 4000 + row[1]));
                edges.due("correctedTime(2, 8) then", one.correctedTime(2, 8), -992);
                edges.due("forgetPairs(2) then", one.forgetPairs(2), 1);
                edges.dueThrow(call + " than two", WRONG, () -> two.addPair(2, 5000 + row[0], 4000 + row[1]));
                edges.due("correctedTime(2, 8) then", two.correctedTime(2, 8), -992);
                edges.due("forgetPairs(2) then", two.forgetPairs(2), 2);
            }
        }
    }

    @Sentence(of = "Promise 2", says = "the time of the sensor is not greater than that of the latest one")
    static void promise2TimeNotGreater(Edges edges) {
        duePairs(edges, new int[] {1, 1, 1}, new int[] {0, 0, 0}, new int[] {0, 1, 0}, new int[] {-1, -1, 0},
            new int[] {-1, 0, 0}, new int[] {-1, 1, 0}, new int[] {-100, -100, 0}, new int[] {-200, -200, 0},
            new int[] {-201, -201, 0}, new int[] {-201, 1, 0});
    }

    @Sentence(of = "Promise 2",
        says = "or twice the difference of the true times is less than the difference of the times of the sensor")
    static void promise2TooLittleTrueTime(Edges edges) {
        duePairs(edges, new int[] {1, 0, 0}, new int[] {2, 1, 1}, new int[] {3, 1, 0}, new int[] {3, 2, 1},
            new int[] {100, 50, 1}, new int[] {100, 49, 0}, new int[] {101, 51, 1}, new int[] {101, 50, 0},
            new int[] {1, -1, 0}, new int[] {100, -100, 0});
        edges.due("addPair(0, 9999, 5000)", withPairs(0, 0, 0).addPair(0, 9999, 5000), 2);
        edges.dueThrow("addPair(0, 9999, 4999)", WRONG, () -> withPairs(0, 0, 0).addPair(0, 9999, 4999));
        edges.dueThrow("addPair(0, 9999, 0)", WRONG, () -> withPairs(0, 0, 9999).addPair(0, 9999, 0));
    }

    @Sentence(of = "Promise 2",
        says = "or the difference of the true times is greater than twice that difference")
    static void promise2TooMuchTrueTime(Edges edges) {
        duePairs(edges, new int[] {1, 2, 1}, new int[] {1, 3, 0}, new int[] {2, 4, 1}, new int[] {2, 5, 0},
            new int[] {100, 200, 1}, new int[] {100, 201, 0}, new int[] {101, 202, 1}, new int[] {101, 203, 0});
        edges.due("addPair(0, 4999, 9998)", withPairs(0, 0, 0).addPair(0, 4999, 9998), 2);
        edges.dueThrow("addPair(0, 4999, 9999)", WRONG, () -> withPairs(0, 0, 0).addPair(0, 4999, 9999));
        edges.dueThrow("addPair(0, 1, 9999)", WRONG, () -> withPairs(0, 0, 0).addPair(0, 1, 9999));
    }

    @Sentence(of = "Promise 3", says = "Forgets all pairs of a sensor")
    static void promise3Forgets(Edges edges) {
        TrackFusion fusion = withPairs(0, 100, 110, 200, 235);
        Runs.addPairs(fusion, 1, 100, 110, 200, 235);
        fusion.report(0, 50, 3, 4);
        fusion.forgetPairs(0);
        dueTimes(edges, fusion, 0, new int[] {0, 0}, new int[] {100, 100}, new int[] {200, 200});
        dueTimes(edges, fusion, 1, new int[] {50, 47}, new int[] {100, 110}, new int[] {200, 235});
        edges.due("a pair before the forgotten ones", fusion.addPair(0, 60, 9000), 1);
        dueTimes(edges, fusion, 0, new int[] {60, 9000}, new int[] {100, 9040});
        fusion.process();
        edges.due("the time of an earlier report", fusion.timeOf(0), 47);
    }

    @Sentence(of = "Promise 3", says = "Returns the number of pairs that were kept")
    static void promise3Returns(Edges edges) {
        edges.due("without pairs", new TrackFusion().forgetPairs(0), 0);
        edges.due("with one", withPairs(3, 1, 1).forgetPairs(3), 1);
        edges.due("with two", withPairs(3, 1, 1, 2, 2).forgetPairs(3), 2);
        edges.due("after a third one", withPairs(3, 1, 1, 2, 2, 3, 3).forgetPairs(3), 2);
        TrackFusion fusion = withPairs(2, 1, 1, 2, 2);
        edges.due("of another sensor", fusion.forgetPairs(1), 0);
        edges.due("first", fusion.forgetPairs(2), 2);
        edges.due("again", fusion.forgetPairs(2), 0);
    }

    @Sentence(of = "Promise 3", says = "Throws `IndexOutOfBoundsException` if there is no such sensor")
    static void promise3NoSuchSensor(Edges edges) {
        for (int sensor : new int[] {0, 1, 2, 3}) {
            edges.due("forgetPairs(" + sensor + ")", withPairs(sensor, 7, 7).forgetPairs(sensor), 1);
        }
        for (int sensor : NO_SENSORS) {
            edges.refused("forgetPairs(" + sensor + ")", NO_INDEX, fusion -> fusion.forgetPairs(sensor));
        }
    }

    @Sentence(of = "Promise 4", says = "`time`: the time of the sensor, 0 to 9999")
    static void promise4Time(Edges edges) {
        TrackFusion fusion = withPairs(1, 10, 30);
        dueTimes(edges, fusion, 0, new int[] {0, 0}, new int[] {9999, 9999});
        dueTimes(edges, fusion, 1, new int[] {0, 20}, new int[] {9999, 10019});
        edges.dueThrow("correctedTime(1, -1)", WRONG, () -> fusion.correctedTime(1, -1));
        edges.dueThrow("correctedTime(1, 10000)", WRONG, () -> fusion.correctedTime(1, 10000));
    }

    @Sentence(of = "Promise 4", says = "Returns the corrected time, which can be negative")
    static void promise4Returns(Edges edges) {
        dueTimes(edges, withPairs(0, 10, 9), 0, new int[] {0, -1}, new int[] {1, 0}, new int[] {2, 1});
        dueTimes(edges, withPairs(1, 9999, 0), 1, new int[] {0, -9999}, new int[] {9998, -1}, new int[] {9999, 0});
        dueTimes(edges, withPairs(2, 9998, 0, 9999, 2), 2, new int[] {0, -19996}, new int[] {9997, -2},
            new int[] {9998, 0}, new int[] {9999, 2});
        dueTimes(edges, withPairs(3, 0, 9997, 1, 9999), 3, new int[] {0, 9997}, new int[] {9999, 29995});
    }

    @Sentence(of = "Promise 4", says = "Throws `IndexOutOfBoundsException` if there is no such sensor")
    static void promise4NoSuchSensor(Edges edges) {
        for (int sensor : new int[] {0, 1, 2, 3}) {
            edges.due("correctedTime(" + sensor + ", 5)", withPairs(sensor, 7, 8).correctedTime(sensor, 5), 6);
        }
        for (int sensor : NO_SENSORS) {
            edges.refused("correctedTime(" + sensor + ", 5)", NO_INDEX, fusion -> fusion.correctedTime(sensor, 5));
        }
    }

    @Sentence(of = "Promise 4", says = "Throws `IllegalArgumentException` if the time is out of range")
    static void promise4TimeOutOfRange(Edges edges) {
        for (int time : NO_SENSOR_TIMES) {
            for (int sensor = 0; sensor < 4; sensor++) {
                int of = sensor;
                edges.refused("correctedTime(" + of + ", " + time + ")", WRONG,
                    fusion -> fusion.correctedTime(of, time));
            }
        }
        edges.due("correctedTime(0, 0)", new TrackFusion().correctedTime(0, 0), 0);
        edges.due("correctedTime(0, 9999)", new TrackFusion().correctedTime(0, 9999), 9999);
    }
}
