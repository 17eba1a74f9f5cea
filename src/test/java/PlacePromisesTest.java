/** The sentences of promises 20 to 22: east, north, vaneShown. */
final class PlacePromisesTest {
    private static final String EAST = "Promise 20: east";
    private static final String NORTH = "Promise 21: north";
    private static final String VANE = "Promise 22: vaneShown";
    private static final String ENTRY = "`entry`: an entry";
    private static final String HUNDREDTHS = "Returns hundredths of miles.";
    private static final String THROWS =
            "Throws `IndexOutOfBoundsException` if there is no such entry";

    private PlacePromisesTest() {
    }

    static void run() {
        Document.holds(EAST, "Returns how far east a place by reckoning is: the boat is at 0 east "
                + "and 0 north at the entry 0;", PlacePromisesTest::startsAt0);
        Document.holds(EAST, "from each entry to the next one it goes with the true speed and "
                + "heading of the first of them,", PlacePromisesTest::firstOfThem);
        Document.holds(EAST, "and is carried by the tide of the hour in which the minute of that "
                + "one lies.", PlacePromisesTest::hourOfTheFirst);
        Document.holds(EAST, "East of each is its speed times the sine of its heading times the "
                + "minutes;", PlacePromisesTest::eastOfEach);
        Document.holds(EAST, "all together, divided by 6000, are hundredths of miles.",
                PlacePromisesTest::allTogether);
        Document.holds(EAST, ENTRY, () -> placeOfEntries(90, SailLog::east));
        Document.holds(EAST, HUNDREDTHS, () -> hundredths(90, SailLog::east));
        Document.holds(EAST, THROWS, () -> Logs.refusesOtherEntries(SailLog::east));
        Document.holds(NORTH, "Returns how far north it is, by cosines.",
                PlacePromisesTest::byCosines);
        Document.holds(NORTH, ENTRY, () -> placeOfEntries(0, SailLog::north));
        Document.holds(NORTH, HUNDREDTHS, () -> hundredths(0, SailLog::north));
        Document.holds(NORTH, THROWS, () -> Logs.refusesOtherEntries(SailLog::north));
        Document.holds(VANE, "Returns the fault of the vane that both tacks show: the mean of the "
                + "open angles of all entries on PORT, less that of those on STARBOARD, divided "
                + "by 2;", PlacePromisesTest::halfOfTheDifference);
        Document.holds(VANE, "each mean is rounded down.", PlacePromisesTest::meansRoundedDown);
        Document.holds(VANE, "Returns the degrees by which the vane should be set on;",
                PlacePromisesTest::setOnByThat);
        Document.holds(VANE, "-1000 if there are no entries on one side.",
                PlacePromisesTest::noneOnOneSide);
    }

    private static void isAt(String what, int east, int north, SailLog x, int entry) {
        Checks.same(what + ", east", east, x.east(entry));
        Checks.same(what + ", north", north, x.north(entry));
    }

    private static void startsAt0() {
        SailLog x = Logs.one(300, 45, 600, 90);
        x.setTide(0, 45, 100);
        isAt("one entry", 0, 0, x, 0);
        x.log(10, 300, 45, 600, 90);
        isAt("one after it", 0, 0, x, 0);
        SailLog late = new SailLog();
        late.log(1439, 300, 225, 0, 0);
        late.setTide(23, 225, 100);
        isAt("not since midnight", 0, 0, late, 0);
    }

    private static void firstOfThem() {
        SailLog x = new SailLog();
        x.log(0, 60, 90, 0, 0);
        x.log(100, 30, 0, 0, 0);
        isAt("as the entry 0", 1000, 0, x, 1);
        x.log(200, 300, 270, 0, 0);
        isAt("then as the entry 1", 1000, 500, x, 2);
        x.setFaults(500, 0, 0);
        isAt("true speeds", 500, 250, x, 2);
        x.setFaults(1000, 20, 0);
        // The sines of 110, 20 and their cosines are 939, 343, -343 and 939.
        isAt("true headings", 939 + 171, -343 + 469, x, 2);
        x.setFaults(1000, 0, 20);
        isAt("not the vane", 1000, 500, x, 2);
    }

    private static void hourOfTheFirst() {
        SailLog x = new SailLog();
        x.log(0, 0, 0, 0, 0);
        x.log(59, 0, 0, 0, 0);
        x.log(60, 0, 0, 0, 0);
        x.log(119, 0, 0, 0, 0);
        x.log(1380, 0, 0, 0, 0);
        x.log(1439, 0, 0, 0, 0);
        x.setTide(0, 90, 60);
        isAt("the minute 0", 590, 0, x, 1);
        isAt("the minute 59", 600, 0, x, 2);
        isAt("not the minute 60", 600, 0, x, 3);
        x.setTide(0, 0, 0);
        x.setTide(1, 90, 60);
        isAt("not the minute 59", 0, 0, x, 2);
        isAt("the minute 60", 590, 0, x, 3);
        // The tide of 1:59 carries it until 23:00.
        isAt("the minute 119", 590 + 12610, 0, x, 4);
        x.setTide(22, 0, 100);
        isAt("no hour between", 13200, 0, x, 4);
        x.setTide(23, 0, 60);
        isAt("not the hour of the next one", 13200, 0, x, 4);
        isAt("the minute 1380", 13200, 590, x, 5);
    }

    private static void eastOfEach() {
        int[] headings = {0, 1, 89, 90, 179, 180, 181, 225, 270, 359};
        int[] sines = {0, 17, 999, 1000, 17, 0, -17, -705, -1000, -17};
        for (int i = 0; i < headings.length; i++) {
            Checks.same("sine of " + headings[i], sines[i], Logs.eastOf(headings[i]));
        }
        SailLog x = Logs.one(0, 90, 0, 0);
        x.log(1439, 0, 0, 0, 0);
        Checks.same("no speed", 0, x.east(1));
        SailLog minute = Logs.one(6, 90, 0, 0);
        minute.log(1, 0, 0, 0, 0);
        Checks.same("a minute", 1, minute.east(1));
        SailLog day = Logs.one(300, 90, 0, 0);
        day.setFaults(1500, 0, 0);
        day.setTide(0, 90, 100);
        day.log(1439, 0, 0, 0, 0);
        Checks.same("as far as can be", 1439 * 550 / 6, day.east(1));
        SailLog back = Logs.one(300, 270, 0, 0);
        back.setFaults(1500, 0, 0);
        back.setTide(0, 270, 100);
        back.log(1439, 0, 0, 0, 0);
        // 791450000 / 6000 is 131908.3.
        Checks.same("as far back as can be", -131909, back.east(1));
    }

    private static void allTogether() {
        // Legs of 2820 each: 0.47 of a hundredth.
        SailLog x = new SailLog();
        for (int i = 0; i < 8; i++) {
            x.log(i, 4, i < 3 ? 45 : 225, 0, 0);
        }
        int[] places = {0, 0, 0, 1, 0, 0, 0, -1};
        for (int i = 0; i < 8; i++) {
            isAt("entry " + i, places[i], places[i], x, i);
        }
        SailLog tide = Logs.one(3, 90, 0, 0);
        tide.log(1, 0, 0, 0, 0);
        Checks.same("3000", 0, tide.east(1));
        tide.setTide(0, 90, 3);
        Checks.same("3000 and 3000 of the tide", 1, tide.east(1));
        tide.setTide(0, 90, 2);
        Checks.same("3000 and 2000 of the tide", 0, tide.east(1));
        tide.setTide(0, 270, 4);
        Checks.same("3000 less 4000: below 0", -1, tide.east(1));
        tide.setTide(0, 270, 3);
        Checks.same("3000 less 3000", 0, tide.east(1));
        tide.setTide(0, 270, 9);
        Checks.same("3000 less 9000: just -1", -1, tide.east(1));
        tide.setTide(0, 270, 10);
        Checks.same("3000 less 10000", -2, tide.east(1));
        SailLog least = Logs.one(1, 87, 0, 0);
        least.log(1, 0, 0, 0, 0);
        least.setTide(0, 268, 1);
        // 998 and -999.
        Checks.same("-1 is rounded down", -1, least.east(1));
    }

    /** A full log that goes on by 0.1 miles an entry. */
    private static void placeOfEntries(int heading, Logs.OfEntry call) {
        int[] alike = Logs.told(60, heading, 0, 0);
        SailLog x = Logs.full(alike, alike, alike);
        for (int entry = 0; entry < 60; entry++) {
            Checks.same("entry " + entry, 10 * entry, call.answer(x, entry));
        }
    }

    private static void hundredths(int heading, Logs.OfEntry call) {
        SailLog x = Logs.one(10, heading, 0, 0);
        x.log(6, 0, 0, 0, 0);
        Checks.same("a knot for 6 minutes: 0.1 miles", 10, call.answer(x, 1));
        x.log(7, 0, 0, 0, 0);
        Checks.same("a boat that lies still", 10, call.answer(x, 2));
        SailLog least = Logs.one(6, heading, 0, 0);
        least.log(1, 0, 0, 0, 0);
        Checks.same("the least", 1, call.answer(least, 1));
        SailLog less = Logs.one(5, heading, 0, 0);
        less.log(1, 0, 0, 0, 0);
        Checks.same("less than that", 0, call.answer(less, 1));
    }

    private static void byCosines() {
        int[] headings = {0, 1, 89, 90, 91, 135, 180, 269, 270, 271, 359};
        int[] cosines = {1000, 999, 17, 0, -17, -705, -1000, -17, 0, 17, 999};
        for (int i = 0; i < headings.length; i++) {
            Checks.same("cosine of " + headings[i], cosines[i], Logs.northOf(headings[i]));
        }
        SailLog x = Logs.one(0, 0, 0, 0);
        x.log(60, 0, 0, 0, 0);
        for (int i = 0; i < headings.length; i++) {
            x.setTide(0, headings[i], 100);
            Checks.same("the tide's, " + headings[i], cosines[i], x.north(1));
        }
        Checks.same("the entry 0", 0, x.north(0));
        SailLog south = Logs.one(1, 177, 0, 0);
        south.log(1, 0, 0, 0, 0);
        south.setTide(0, 2, 1);
        // -998 and 999.
        Checks.same("1 is rounded down", 0, south.north(1));
        south.setTide(0, 4, 1);
        // -998 and 997.
        Checks.same("-1 is rounded down", -1, south.north(1));
    }

    private static void halfOfTheDifference() {
        Checks.same("alike", 0, Logs.still(60, 300).vaneShown());
        Checks.same("port is 20 more", 10, Logs.still(41, 299).vaneShown());
        Checks.same("port is 20 less", -10, Logs.still(61, 319).vaneShown());
        Checks.same("port is 11 more", 5, Logs.still(30, 319).vaneShown());
        Checks.same("port is 11 less", -6, Logs.still(41, 330).vaneShown());
        Checks.same("port is 176 more", 88, Logs.still(2, 182).vaneShown());
        Checks.same("port is 176 less", -88, Logs.still(178, 358).vaneShown());
        // Port 60 and 30: 45. Starboard 41, 15 and 13: 23.
        Checks.same("means", 11, Logs.still(41, 300, 15, 330, 13).vaneShown());
        Checks.same("those on neither side do not count", 10,
                Logs.still(0, 41, 180, 299, 0, 180).vaneShown());
        SailLog x = Logs.full(Logs.told(0, 0, 100, 41), Logs.told(0, 0, 100, 0),
                Logs.told(0, 0, 100, 299));
        Checks.same("the first and the last one of 60", 10, x.vaneShown());
    }

    private static void meansRoundedDown() {
        // Port 60 and 41, starboard 41: 51 less 41 would make 5.
        Checks.same("50.5 less 41", 4, Logs.still(41, 300, 319).vaneShown());
        Checks.same("50.5 less twice 41", 4, Logs.still(41, 300, 41, 319).vaneShown());
        // Port 60, starboard 60 and 41: 60 less 50.5 or 51 would make 4.
        Checks.same("60 less 50.5", 5, Logs.still(41, 60, 300).vaneShown());
        // Port 41, starboard 55 and 60: 41 less 57.5 or 58 would make -9.
        Checks.same("41 less 57.5", -8, Logs.still(55, 60, 319).vaneShown());
    }

    private static void setOnByThat() {
        SailLog x = Logs.still(60, 270);
        Checks.same("a vane that is 15 back", 15, x.vaneShown());
        x.setFaults(1000, 0, 15);
        Checks.same("set on by 15", 0, x.vaneShown());
        x.setFaults(1000, 0, 20);
        Checks.same("set on too far", -5, x.vaneShown());
        SailLog y = Logs.still(90, 300);
        Checks.same("a vane that is 15 on", -15, y.vaneShown());
        y.setFaults(1000, 0, -15);
        Checks.same("set back by 15", 0, y.vaneShown());
    }

    private static void noneOnOneSide() {
        Checks.same("an empty log", -1000, new SailLog().vaneShown());
        Checks.same("just starboard", -1000, Logs.still(60, 41, 2).vaneShown());
        Checks.same("just port", -1000, Logs.still(300, 319, 358).vaneShown());
        Checks.same("just neither side", -1000, Logs.still(0, 180).vaneShown());
        Checks.same("starboard and neither side", -1000, Logs.still(60, 0, 180).vaneShown());
        Checks.same("port and neither side", -1000, Logs.still(180, 300, 0).vaneShown());
        Checks.same("one of each", 0, Logs.still(358, 2).vaneShown());
        SailLog x = Logs.still(2, 300);
        x.setFaults(1000, 0, -2);
        Checks.same("the vane is set back to neither side", -1000, x.vaneShown());
    }
}
