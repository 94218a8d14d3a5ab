/** What calls answer, of the pump and the wind: promises 17 to 25. */
final class PumpAnswers {
    private PumpAnswers() {
    }

    static void test() {
        pumpAndWind();
    }

    private static void pumpAndWind() {
        Checks.promise(17, "Sets the capacity of the pump.", PumpAnswers::setsCapacity);
        Checks.promise(17, "Returns the previous capacity.", PumpAnswers::previousCapacity);
        Checks.promise(18, "Sets the wind.", PumpAnswers::setsWind);
        Checks.promise(18, "Returns the previous wind.", PumpAnswers::previousWind);
        Checks.promise(19, "Trims the jets.", PumpAnswers::trims);
        Checks.promise(19, "Returns by how much the openings decreased, all together.", PumpAnswers::decreaseAllTogether);
        Checks.promise(20, "Returns the capacity of the pump.", PumpAnswers::setsCapacity);
        Checks.promise(20, "Returns the capacity.", () -> Checks.due(40, new FountainShow().capacity()));
        Checks.promise(21, "Returns the wind.", PumpAnswers::setsWind);
        Checks.promise(22, "Returns the demand.", PumpAnswers::demand);
        Checks.promise(23, "Returns the supply.", PumpAnswers::supply);
        Checks.promise(24, "Returns the water that was pumped so far.", PumpAnswers::pumpedSoFar);
        Checks.promise(24, "Returns the water.", PumpAnswers::mostWater);
        Checks.promise(25, "Returns the shortage so far.", PumpAnswers::shortageSoFar);
        Checks.promise(25, "Returns the shortage.", PumpAnswers::mostWater);
    }

    private static void setsCapacity() {
        FountainShow show = new FountainShow();
        for (int capacity = 100; capacity >= 0; capacity--) {
            show.setCapacity(capacity);
            Checks.due(capacity, show.capacity());
        }
    }

    private static void previousCapacity() {
        FountainShow show = new FountainShow();
        Checks.due("40 0 100 100", show.setCapacity(0) + " " + show.setCapacity(100) + " " + show.setCapacity(100) + " " + show.setCapacity(1));
        show.undo();
        Checks.due(100, show.setCapacity(7));
    }

    private static void setsWind() {
        FountainShow show = new FountainShow();
        Checks.due(0, show.wind());
        for (int wind = -9; wind <= 9; wind++) {
            show.setWind(wind);
            Checks.due(wind, show.wind());
        }
    }

    private static void previousWind() {
        FountainShow show = new FountainShow();
        Checks.due("0 -9 9 9", show.setWind(-9) + " " + show.setWind(9) + " " + show.setWind(9) + " " + show.setWind(1));
        show.undo();
        Checks.due(9, show.setWind(0));
    }

    private static void trims() {
        FountainShow show = Shows.openJets(0, 50, 99);
        show.setWind(9);
        show.trim();
        Checks.due("10 10 0", show.opening(0) + " " + show.opening(1) + " " + show.opening(2));
        show.setWind(-9);
        show.trim();
        Checks.due("0 10 0", show.opening(0) + " " + show.opening(1) + " " + show.opening(2));
        Checks.due(0, show.wildCount());
    }

    private static void decreaseAllTogether() {
        Checks.due(0, new FountainShow().trim());
        Checks.due(0, Shows.openJets(0, 99).trim());
        FountainShow show = Shows.openJets(0, 50, 99);
        show.setWind(9);
        Checks.due(10, show.trim());
        Checks.due(0, show.trim());
        show.setWind(-1);
        Checks.due(9, show.trim());
        Checks.due(1, show.opening(0));
        FountainShow all = Shows.openJets(0, 1, 2, 3, 4, 5, 6, 7, 8, 9);
        all.setCapacity(100);
        all.setWind(-9);
        Checks.due(93, all.trim());
        Checks.due(7, all.demand());
    }

    private static void demand() {
        Checks.due(0, new FountainShow().demand());
        Checks.due(0, Shows.jets(5).demand());
        Checks.due(10, Shows.openJets(5).demand());
        FountainShow all = Shows.openJets(0, 1, 2, 3, 4, 5, 6, 7, 8, 9);
        Checks.due(100, all.demand());
        all.removeJet(0);
        Checks.due(90, all.demand());
        all.setOpening(8, 9);
        Checks.due(89, all.demand());
    }

    private static void supply() {
        Checks.due(0, new FountainShow().supply());
        FountainShow all = Shows.openJets(0, 1, 2, 3, 4, 5, 6, 7, 8, 9);
        Checks.due(40, all.supply());
        for (int capacity : new int[] {0, 1, 99, 100}) {
            all.setCapacity(capacity);
            Checks.due(capacity, all.supply());
        }
        all.setOpening(0, 9);
        Checks.due(99, all.supply());
    }

    private static void pumpedSoFar() {
        FountainShow show = Shows.openJets(5, 6);
        Checks.due(0L, show.pumped());
        show.pass(1);
        Checks.due(20L, show.pumped());
        show.setCapacity(0);
        Checks.due(20L, show.pumped());
        show.pass(40);
        Checks.due(20L, show.pumped());
        show.setCapacity(19);
        show.pass(40);
        Checks.due(780L, show.pumped());
        show.demandAfter(40);
        show.isConsistent();
        Checks.outcome(show, s -> s.firstOverload(40));
        Checks.due(780L, show.pumped());
        show.undo();
        Checks.due(20L, show.pumped());
    }

    private static void shortageSoFar() {
        FountainShow show = Shows.openJets(5, 6);
        show.pass(40);
        Checks.due(0L, show.shortage());
        show.setCapacity(19);
        Checks.due(0L, show.shortage());
        show.pass(1);
        Checks.due(1L, show.shortage());
        show.setCapacity(0);
        show.pass(40);
        Checks.due(801L, show.shortage());
        show.undo();
        Checks.due(1L, show.shortage());
    }

    /** As much as an object's calls can pump, and as much as can be lacking; the half of each here. */
    private static void mostWater() {
        FountainShow show = Shows.openJets(0, 1, 2, 3, 4, 5, 6, 7, 8, 9);
        show.setCapacity(100);
        for (int call = 0; call < 240; call++) {
            show.pass(40);
        }
        show.setCapacity(0);
        for (int call = 0; call < 240; call++) {
            show.pass(40);
        }
        Checks.due("960000 960000", show.pumped() + " " + show.shortage());
        Checks.due(19200, show.beat());
    }
}
