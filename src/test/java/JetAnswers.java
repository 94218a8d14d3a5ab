/** What calls answer, of the jets: promises 2 to 16. */
final class JetAnswers {
    private JetAnswers() {
    }

    static void test() {
        jets();
        landings();
    }

    // Jets.

    private static void jets() {
        Checks.promise(2, "Adds a jet whose valve is closed.", JetAnswers::addedJetIsClosed);
        Checks.promise(2, "Returns the index of the jet.", JetAnswers::indexOfAddedJet);
        Checks.promise(3, "Removes a jet.", JetAnswers::removesJet);
        Checks.promise(3, "Returns the number of steps that are removed from figures.", JetAnswers::stepsRemovedWithJet);
        Checks.promise(4, "Sets the opening of a jet.", JetAnswers::setsOpening);
        Checks.promise(4, "Returns the previous opening.", JetAnswers::previousOpening);
        Checks.promise(5, "Returns the number of jets.", JetAnswers::numberOfJets);
        Checks.promise(6, "Returns the position of a jet.", JetAnswers::positions);
        Checks.promise(6, "Returns the position.", JetAnswers::positionsAfterRemoval);
        Checks.promise(7, "Returns the opening of a jet.", JetAnswers::openings);
        Checks.promise(7, "Returns the opening.", JetAnswers::openingsAfterRemoval);
        Checks.promise(8, "Returns the height of a jet.", JetAnswers::heights);
        Checks.promise(8, "Returns the height in decimetres.", JetAnswers::heightsInDecimetres);
        Checks.promise(12, "Returns the jet with the greatest height; of several, the one with the smallest index.", JetAnswers::highest);
        Checks.promise(12, "Returns the index of the jet.", JetAnswers::indexOfHighest);
        Checks.promise(13, "Returns a jet by its position, the smallest position first.", JetAnswers::byPosition);
        Checks.promise(13, "Returns the index of the jet.", JetAnswers::indexByPosition);
    }

    private static void addedJetIsClosed() {
        FountainShow show = new FountainShow();
        for (int jet = 0; jet < 10; jet++) {
            show.addJet(10 * jet);
            Checks.due(0, show.opening(jet));
            Checks.due(10 * jet, show.position(jet));
            show.setOpening(jet, 10);
        }
        show.removeJet(0);
        show.addJet(99);
        Checks.due(0, show.opening(9));
        Checks.due(99, show.position(9));
        Checks.due(90, show.demand());
    }

    private static void indexOfAddedJet() {
        FountainShow show = new FountainShow();
        for (int jet = 0; jet < 10; jet++) {
            Checks.due(jet, show.addJet(99 - jet));
        }
        show.removeJet(0);
        Checks.due(9, show.addJet(99));
        show.removeJet(9);
        show.removeJet(0);
        Checks.due(8, show.addJet(99));
    }

    private static void removesJet() {
        FountainShow show = Shows.jets(5, 6, 7);
        show.removeJet(1);
        Checks.due("5 7", show.position(0) + " " + show.position(1));
        show.removeJet(1);
        Checks.due(5, show.position(0));
        show.removeJet(0);
        Checks.due(0, show.jetCount());
        Checks.due(0, show.addJet(6));
        FountainShow full = Shows.full();
        for (int left = 9; left >= 0; left--) {
            full.removeJet(left % 2 == 0 ? left : 0);
            Checks.due(left, full.jetCount());
        }
    }

    private static void stepsRemovedWithJet() {
        Checks.due(0, Shows.jets(5).removeJet(0));
        FountainShow one = Shows.usual();
        Checks.due(1, one.removeJet(0));
        Checks.due(2, one.removeJet(0));
        Checks.due(1, one.removeJet(0));
        FountainShow all = Shows.jets(5, 6);
        for (int figure = 0; figure < 5; figure++) {
            all.addFigure();
            for (int step = 0; step < 8; step++) {
                all.addStep(figure, step, 1, step);
            }
        }
        Checks.due(0, all.removeJet(0));
        Checks.due(40, all.removeJet(0));
        for (int figure = 0; figure < 5; figure++) {
            Checks.due(0, all.stepCount(figure));
        }
        Checks.due(0, all.addJet(6));
        Checks.due(0, all.removeJet(0));
    }

    private static void setsOpening() {
        FountainShow show = Shows.jets(5, 6, 7);
        for (int opening = 0; opening <= 10; opening++) {
            show.setOpening(2, opening);
            Checks.due("0 0 " + opening, show.opening(0) + " " + show.opening(1) + " " + show.opening(2));
        }
        show.setOpening(0, 10);
        show.setOpening(2, 0);
        Checks.due("10 0 0", show.opening(0) + " " + show.opening(1) + " " + show.opening(2));
    }

    private static void previousOpening() {
        FountainShow show = Shows.jets(5, 6);
        Checks.due(0, show.setOpening(1, 10));
        Checks.due(10, show.setOpening(1, 10));
        Checks.due(10, show.setOpening(1, 0));
        Checks.due(0, show.setOpening(0, 4));
        Checks.due(4, show.setOpening(0, 5));
        Checks.due(0, show.setOpening(1, 1));
    }

    private static void numberOfJets() {
        FountainShow show = new FountainShow();
        for (int count = 0; count < 10; count++) {
            Checks.due(count, show.jetCount());
            show.addJet(count);
        }
        Checks.due(10, show.jetCount());
        Checks.outcome(show, s -> s.addJet(50));
        Checks.due(10, show.jetCount());
        show.removeJet(4);
        Checks.due(9, show.jetCount());
        show.undo();
        Checks.due(10, show.jetCount());
    }

    private static void positions() {
        FountainShow show = Shows.jets(99, 0, 50);
        Checks.due("99 0 50", show.position(0) + " " + show.position(1) + " " + show.position(2));
        FountainShow full = Shows.full();
        Checks.due("90 45", full.position(0) + " " + full.position(9));
        full.setWind(9);
        Checks.due("90 45", full.position(0) + " " + full.position(9));
    }

    private static void positionsAfterRemoval() {
        FountainShow show = Shows.jets(99, 0, 50);
        show.removeJet(0);
        Checks.due("0 50", show.position(0) + " " + show.position(1));
        show.addJet(98);
        Checks.due(98, show.position(2));
    }

    private static void openings() {
        FountainShow show = Shows.openJets(5, 6);
        show.setOpening(0, 0);
        Checks.due("0 10", show.opening(0) + " " + show.opening(1));
        show.setCapacity(0);
        Checks.due("0 10", show.opening(0) + " " + show.opening(1));
    }

    private static void openingsAfterRemoval() {
        FountainShow show = Shows.openJets(5, 6, 7);
        show.setOpening(2, 3);
        show.removeJet(1);
        Checks.due("10 3", show.opening(0) + " " + show.opening(1));
    }

    private static void heights() {
        FountainShow show = Shows.openJets(5, 6);
        show.setOpening(1, 0);
        Checks.due("100 0", show.height(0) + " " + show.height(1));
        show.setOpening(1, 1);
        Checks.due("100 10", show.height(0) + " " + show.height(1));
    }

    private static void heightsInDecimetres() {
        FountainShow show = Shows.openJets(5, 6, 7);
        show.setCapacity(30);
        Checks.due(100, show.height(2));
        show.setCapacity(29);
        Checks.due(96, show.height(2));
        show.setCapacity(0);
        Checks.due(0, show.height(2));
    }

    private static void highest() {
        FountainShow show = Shows.jets(5, 6, 7);
        Checks.due(0, show.highestJet());
        show.setOpening(2, 1);
        Checks.due(2, show.highestJet());
        show.setOpening(1, 1);
        Checks.due(1, show.highestJet());
        show.setOpening(0, 1);
        Checks.due(0, show.highestJet());
        // Heights that are rounded down may be equal where openings are not.
        show.setOpening(0, 9);
        show.setOpening(1, 10);
        Checks.due(1, show.highestJet());
        show.setCapacity(1);
        Checks.due("4 5", show.height(0) + " " + show.height(1));
        show.setOpening(2, 10);
        Checks.due("3 3 3", show.height(0) + " " + show.height(1) + " " + show.height(2));
        Checks.due(0, show.highestJet());
        show.setCapacity(0);
        Checks.due(0, show.highestJet());
    }

    private static void indexOfHighest() {
        Checks.due(0, Shows.jets(99).highestJet());
        FountainShow full = Shows.full();
        Checks.due(0, full.highestJet());
        for (int jet = 0; jet < 9; jet++) {
            full.setOpening(jet, 2);
        }
        Checks.due(9, full.highestJet());
        full.removeJet(0);
        Checks.due(8, full.highestJet());
    }

    private static void byPosition() {
        FountainShow show = Shows.jets(99, 0, 50);
        Checks.due("1 2 0", show.jetByPosition(0) + " " + show.jetByPosition(1) + " " + show.jetByPosition(2));
        show.setOpening(1, 10);
        show.setWind(9);
        Checks.due("1 2 0", show.jetByPosition(0) + " " + show.jetByPosition(1) + " " + show.jetByPosition(2));
        show.removeJet(1);
        Checks.due("1 0", show.jetByPosition(0) + " " + show.jetByPosition(1));
    }

    private static void indexByPosition() {
        Checks.due(0, Shows.jets(99).jetByPosition(0));
        FountainShow full = Shows.full();
        int[] order = {5, 6, 7, 8, 9, 4, 3, 2, 1, 0};
        for (int rank = 0; rank < 10; rank++) {
            Checks.due(order[rank], full.jetByPosition(rank));
        }
    }

    // Landings.

    private static void landings() {
        Checks.promise(9, "Returns the landing of a jet.", JetAnswers::landing);
        Checks.promise(9, "Returns the landing in metres, possibly negative.", JetAnswers::negativeLandings);
        Checks.promise(10, "Returns whether a jet is wild.", JetAnswers::wildOrNot);
        Checks.promise(10, "Returns true if it is wild.", JetAnswers::trueIfWild);
        Checks.promise(11, "Returns the number of wild jets.", JetAnswers::numberOfWildJets);
        Checks.promise(11, "Returns the number of jets.", JetAnswers::allOrNoneWild);
        Checks.promise(14, "Returns the jet whose landing is nearest to a place; of several, the one with the smallest index.",
                JetAnswers::nearest);
        Checks.promise(14, "Returns the index of the jet.", JetAnswers::nearestToFarPlaces);
        Checks.promise(15, "Returns the number of pairs of jets that cross, computed by comparing all pairs.", JetAnswers::crossings);
        Checks.promise(15, "Returns the number of pairs.", () -> crossingPairs(false));
        Checks.promise(16, "Returns the same as crossings, but is computed by counting inversions while the landings, in the order of"
                + " positions, are sorted by merging.", JetAnswers::sameByMerging);
        Checks.promise(16, "Returns the number of pairs.", () -> crossingPairs(true));
    }

    private static void landing() {
        FountainShow show = Shows.openJets(0, 99);
        Checks.due("0 99", show.landing(0) + " " + show.landing(1));
        show.setWind(2);
        Checks.due("10 109", show.landing(0) + " " + show.landing(1));
        show.setCapacity(10);
        Checks.due("5 104", show.landing(0) + " " + show.landing(1));
    }

    private static void negativeLandings() {
        FountainShow show = Shows.openJets(0, 44, 45, 46);
        show.setWind(-9);
        Checks.due("-45 -1 0 1", show.landing(0) + " " + show.landing(1) + " " + show.landing(2) + " " + show.landing(3));
    }

    private static void wildOrNot() {
        FountainShow show = Shows.openJets(44, 45, 54, 55);
        Checks.due("false false false false", wild(show));
        show.setWind(-9);
        Checks.due("true false false false", wild(show));
        show.setWind(9);
        Checks.due("false false false true", wild(show));
    }

    private static String wild(FountainShow show) {
        return show.isWild(0) + " " + show.isWild(1) + " " + show.isWild(2) + " " + show.isWild(3);
    }

    private static void trueIfWild() {
        FountainShow show = Shows.openJets(0, 99, 50, 51);
        show.setWind(1);
        Checks.due("false true false false", wild(show));
        show.setWind(-1);
        Checks.due("true false false false", wild(show));
        show.setCapacity(0);
        Checks.due("false false false false", wild(show));
    }

    private static void numberOfWildJets() {
        Checks.due(0, new FountainShow().wildCount());
        FountainShow show = Shows.openJets(44, 45, 54, 55);
        Checks.due(0, show.wildCount());
        show.setWind(-9);
        Checks.due(1, show.wildCount());
        show.removeJet(0);
        Checks.due(0, show.wildCount());
        show.setWind(9);
        Checks.due(1, show.wildCount());
    }

    private static void allOrNoneWild() {
        FountainShow all = Shows.openJets(0, 1, 2, 3, 4, 5, 6, 7, 8, 9);
        all.setCapacity(100);
        Checks.due(0, all.wildCount());
        all.setWind(-9);
        Checks.due(10, all.wildCount());
        all.setWind(9);
        Checks.due(0, all.wildCount());
    }

    private static void nearest() {
        FountainShow show = Shows.jets(40, 20, 60);
        Checks.due("1 0 0", show.nearestLanding(29) + " " + show.nearestLanding(30) + " " + show.nearestLanding(31));
        Checks.due("0 0 2", show.nearestLanding(49) + " " + show.nearestLanding(50) + " " + show.nearestLanding(51));
        Checks.due("1 2", show.nearestLanding(20) + " " + show.nearestLanding(60));
        // Landings count, not positions: jet 1 lands on 65.
        show.setOpening(1, 10);
        show.setWind(9);
        Checks.due("2 1 1", show.nearestLanding(62) + " " + show.nearestLanding(63) + " " + show.nearestLanding(99));
        // Three that land on the same place.
        FountainShow same = Shows.jets(50, 41, 45);
        same.setOpening(1, 2);
        same.setOpening(2, 1);
        same.setWind(9);
        Checks.due("50 50 49", same.landing(0) + " " + same.landing(1) + " " + same.landing(2));
        Checks.due("0 2", same.nearestLanding(50) + " " + same.nearestLanding(49));
    }

    private static void nearestToFarPlaces() {
        int[] low = {Integer.MIN_VALUE, Integer.MIN_VALUE + 1, Integer.MIN_VALUE + 44, Integer.MIN_VALUE + 45, -1000000, -46};
        int[] high = {Integer.MAX_VALUE, Integer.MAX_VALUE - 1, Integer.MAX_VALUE - 144, Integer.MAX_VALUE - 145, 1000000, 145};
        for (int wind : new int[] {-9, 0, 9}) {
            FountainShow show = Shows.openJets(50, 0, 99, 1);
            show.setWind(wind);
            for (int place : low) {
                Checks.due(1, show.nearestLanding(place));
            }
            for (int place : high) {
                Checks.due(2, show.nearestLanding(place));
            }
        }
        for (int place : new int[] {Integer.MIN_VALUE, -1, 0, 99, 100, Integer.MAX_VALUE}) {
            Checks.due(0, Shows.jets(50).nearestLanding(place));
        }
    }

    private static void crossings() {
        Checks.due(0, new FountainShow().crossings());
        Checks.due(0, Shows.openJets(5).crossings());
        Checks.due(0, Shows.full().crossings() - Shows.full().crossingsByMerging());
        FountainShow show = Shows.jets(30, 10, 20, 40, 55);
        show.setOpening(1, 10);
        show.setOpening(2, 5);
        show.setWind(9);
        // 10 lands on 55, 20 on 42: they cross each other, and 30 and 40; with the landing on 55 there is no crossing.
        Checks.due(5, show.crossings());
        show.setWind(-9);
        Checks.due(0, show.crossings());
    }

    /** Ten jets in a row with falling openings all cross; with rising ones none does. */
    private static void crossingPairs(boolean byMerging) {
        for (int count = 0; count <= 10; count++) {
            FountainShow show = new FountainShow();
            show.setCapacity(100);
            show.setWind(9);
            for (int jet = 0; jet < count; jet++) {
                show.addJet(50 + jet);
                show.setOpening(jet, 10 - jet);
            }
            Checks.due(count * (count - 1) / 2, byMerging ? show.crossingsByMerging() : show.crossings());
            for (int jet = 0; jet < count; jet++) {
                show.setOpening(jet, jet);
            }
            Checks.due(0, byMerging ? show.crossingsByMerging() : show.crossings());
        }
    }

    /** All openings of 0, 5 and 10 of five jets, in a low and a strong wind either way. */
    private static void sameByMerging() {
        for (int wind : new int[] {-9, -2, 2, 9}) {
            for (int kind = 0; kind < 243; kind++) {
                FountainShow show = Shows.jets(48, 40, 60, 44, 52);
                show.setWind(wind);
                for (int jet = 0, rest = kind; jet < 5; jet++, rest /= 3) {
                    show.setOpening(jet, 5 * (rest % 3));
                }
                int pairs = 0;
                for (int jet = 0; jet < 5; jet++) {
                    for (int other = 0; other < 5; other++) {
                        boolean cross = show.position(jet) < show.position(other) && show.landing(jet) > show.landing(other);
                        pairs += cross ? 1 : 0;
                    }
                }
                Checks.due(pairs, show.crossings());
                Checks.due(pairs, show.crossingsByMerging());
            }
        }
        Checks.due(0, new FountainShow().crossingsByMerging());
        Checks.due(0, Shows.openJets(5).crossingsByMerging());
    }
}
