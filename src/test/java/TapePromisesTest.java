/** Promises 1 to 5: a new object, and the calls of the language. */
public final class TapePromisesTest {
    private static final String HOUSE = "house a at 1 high 2;";

    public static void main(String[] args) {
        Check.runAll(TapePromisesTest.class);
    }

    // ---- Promise 1: a new object

    static void promise1HasNoHousesAndNoLaws() {
        ShadowRegistry x = new ShadowRegistry();
        Check.due("houses()", x.houses(), 0);
        Check.due("laws()", x.laws(), 0);
        Check.due("days()", x.days(), 0);
        Check.due("lawsCarriedOut()", x.lawsCarriedOut(), 0);
        Check.due("errorAt()", x.errorAt(), -1);
        for (int hour = 0; hour < 24; hour++) {
            Check.due("housesInTheDark at " + hour, x.housesInTheDark(hour), 0);
        }
    }

    static void promise1HasAnEmptyTape() {
        Check.due("trim(0)", new ShadowRegistry().trim(0), 0);
        Check.refused("trim(1)", Check.ARGUMENT, ShadowRegistry::new, x -> x.trim(1));
        Check.due("feed", new ShadowRegistry().feed(0, 0, 0, 0, 0), 20);
        ShadowRegistry x = new ShadowRegistry();
        Check.due("teach()", x.teach(), 0);
        Check.due("errorAt()", x.errorAt(), -1);
    }

    static void promise1SharesNothingWithOtherObjects() {
        ShadowRegistry x = Check.taught(Stage.STREET + "law raise a by 1;");
        ShadowRegistry y = new ShadowRegistry();
        Check.due("houses() of the second object", y.houses(), 0);
        Check.tape(y, "house a at 5 high 6; house b at 6 high 7; law raise b by -1;");
        Check.tape(x, HOUSE);
        y.teach();
        Check.due("houses() of the first object", x.houses(), 3);
        y.passDays(4);
        Check.due("days() of the first object", x.days(), 0);
        Check.due("lawsCarriedOut() of the first object", x.lawsCarriedOut(), 0);
        x.passDays(1);
        Check.due("heightOf(0) of the first object", x.heightOf(0), 13);
        Check.due("heightOf(1) of the second object", y.heightOf(1), 3);
        Check.due("errors of the first object", x.teach(), 0);
        Check.due("houses() of the first object", x.houses(), 1);
        Check.due("houses() of the second object", y.houses(), 2);
    }

    // ---- Promise 2: feed

    static void promise2PutsTheHighestByteFirst() {
        ShadowRegistry x = new ShadowRegistry();
        Check.due("feed", x.feed(0x686f7573, 0x65206120, 0x61742031, 0x20686967, 0x6820323b), 20);
        Check.due("teach()", x.teach(), 0);
        Check.due("placeOf(0)", x.placeOf(0), 1);
        Check.due("heightOf(0)", x.heightOf(0), 2);
    }

    static void promise2AppendsBehindTheBytesOfBefore() {
        ShadowRegistry x = new ShadowRegistry();
        Check.tape(x, HOUSE + "house bb at 10 ");
        Check.due("feed", x.feed(0x20202020, 0x20202020, 0x20686967, 0x68203139, 0x203b200a), 55);
        Check.due("teach()", x.teach(), 0);
        Check.due("heightOf(0)", x.heightOf(0), 2);
        Check.due("placeOf(1)", x.placeOf(1), 10);
        Check.due("heightOf(1)", x.heightOf(1), 19);
    }

    static void promise2BytesFrom128AreNoLettersAndNoBlanks() {
        int[] due = {0, 0, 0, 0, 0, 5, 6, 7, 8, 8, 10, 11, 12, 13, 13, 13, 13, 17, 18, 19};
        for (int i = 0; i < 20; i++) {
            StringBuilder text = new StringBuilder(HOUSE);
            text.setCharAt(i, (char) (text.charAt(i) | 128));
            Check.error(1, due[i], text.toString());
        }
    }

    static void promise2TheFirstBytesOfAnEmptyTapeAre20() {
        ShadowRegistry x = new ShadowRegistry();
        Check.due("feed of a new object", x.feed(-1, -1, -1, -1, -1), 20);
        x.teach();
        Check.due("feed behind an error", x.feed(0, 0, 0, 0, 0), 20);
        x.trim(0);
        Check.tape(x, HOUSE);
        x.teach();
        Check.due("feed behind a teach() without an error", x.feed(0, 0, 0, 0, 0), 20);
        x.trim(0);
        Check.due("feed behind trim(0)", x.feed(0, 0, 0, 0, 0), 20);
        x.trim(1);
        Check.due("feed behind trim(1)", x.feed(0, 0, 0, 0, 0), 21);
    }

    static void promise2TakesAHundredTimesTwentyBytesAndNoMore() {
        ShadowRegistry x = new ShadowRegistry();
        for (int i = 1; i <= 100; i++) {
            Check.due("feed " + i, x.feed(-1, 0, Integer.MIN_VALUE, Integer.MAX_VALUE, 1), 20 * i);
        }
        Check.dueText("feed 101", Check.outcome(() -> x.feed(0, 0, 0, 0, 0)), Check.STATE.getName());
    }

    static void promise2TheLastTwentyBytesOf2000Count() {
        ShadowRegistry x = Stage.withBytes(1980);
        // "house b at 3 high 4;"
        Check.due("feed with 1980 bytes", x.feed(0x686f7573, 0x65206220, 0x61742033, 0x20686967, 0x6820343b), 2000);
        Check.due("teach()", x.teach(), 0);
        Check.due("houses()", x.houses(), 2);
        Check.due("placeOf(1)", x.placeOf(1), 3);
        Check.due("heightOf(1)", x.heightOf(1), 4);
    }

    static void promise2RefusesMoreThan2000Bytes() {
        for (int bytes = 1981; bytes <= 2000; bytes++) {
            int full = bytes;
            Check.refused("feed with " + bytes + " bytes", Check.STATE, () -> Stage.withBytes(full),
                x -> x.feed(0x686f7573, 0x65206220, 0x61742033, 0x20686967, 0x6820343b));
        }
    }

    // ---- Promise 3: trim

    static void promise3TakesAllFrom0ToTheNumberOfBytes() {
        for (int bytes : new int[] {20, 21, 40, 255, 256, 1981, 2000}) {
            for (int n : new int[] {0, 1, bytes - 1, bytes}) {
                ShadowRegistry x = Stage.withBytes(bytes);
                Check.due("trim(" + n + ") of " + bytes, x.trim(n), n);
                Check.due("trim(" + n + ") again", x.trim(n), n);
                Check.dueText("trim of one more", Check.outcome(() -> x.trim(n + 1)), Check.ARGUMENT.getName());
            }
        }
    }

    static void promise3RefusesAllElse() {
        for (int bytes : new int[] {20, 21, 255, 256, 1981, 2000}) {
            for (int n : new int[] {-1, -bytes, bytes + 1, bytes + 20, 2001, 65536, Integer.MIN_VALUE,
                Integer.MAX_VALUE, Integer.MIN_VALUE + bytes}) {
                Check.refused("trim(" + n + ") of " + bytes, Check.ARGUMENT, () -> Stage.withBytes(bytes),
                    x -> x.trim(n));
            }
        }
    }

    static void promise3OfAnEmptyTapeTakes0Alone() {
        Check.takes("trim of an empty tape", 0, 0, Check.ARGUMENT, ShadowRegistry::new, (x, n) -> x.trim(n));
    }

    static void promise3ToAllBytesChangesNothing() {
        Check.changesNothing("trim(40)", 40, () -> Stage.withBytes(40), x -> x.trim(40));
        Check.changesNothing("trim(2000)", 2000, () -> Stage.withBytes(2000), x -> x.trim(2000));
        Check.changesNothing("trim(0)", 0, ShadowRegistry::new, x -> x.trim(0));
    }

    static void promise3KeepsTheFirstBytes() {
        ShadowRegistry x = new ShadowRegistry();
        Check.tape(x, "house a at 123456 high 2;");
        Check.due("trim(12)", x.trim(12), 12);
        // " high 3;" and blanks
        Check.due("feed", x.feed(0x20686967, 0x6820333b, 0x20202020, 0x20202020, 0x20202020), 32);
        Check.due("teach()", x.teach(), 0);
        Check.due("placeOf(0)", x.placeOf(0), 1);
        Check.due("heightOf(0)", x.heightOf(0), 3);
    }

    static void promise3CutsTheLastByteAlone() {
        ShadowRegistry x = new ShadowRegistry();
        Check.tape(x, HOUSE + "\n");
        Check.due("trim(20)", x.trim(20), 20);
        Check.due("teach()", x.teach(), 0);
        Check.tape(x, HOUSE);
        Check.due("trim(19)", x.trim(19), 19);
        Check.due("teach() without the ;", x.teach(), 1);
        Check.due("errorAt()", x.errorAt(), 19);
    }

    static void promise3WhatIsCutDoesNotComeBack() {
        ShadowRegistry x = new ShadowRegistry();
        Check.tape(x, HOUSE);
        x.trim(0);
        Check.refused("trim(20) behind trim(0)", Check.ARGUMENT, TapePromisesTest::cut, y -> y.trim(20));
        Check.due("teach() of what is left", x.teach(), 0);
        Check.due("houses()", x.houses(), 0);
    }

    private static ShadowRegistry cut() {
        ShadowRegistry x = new ShadowRegistry();
        Check.tape(x, HOUSE);
        x.trim(0);
        return x;
    }

    // ---- Promise 4: teach

    static void promise4Answers0OrTheError() {
        Check.good(HOUSE);
        Check.error(1, "house a at 1 high 2~");
        Check.error(2, HOUSE + "house ~a at 2 high 2;");
        Check.error(3, HOUSE + "law open ~b;");
        Check.error(4, Stage.twelveHouses() + "house ~b at 1 high 2;");
        Check.error(5, "house a at 1 high ~31;");
    }

    static void promise4OfTheEmptyTapeIsARegistryOfNothing() {
        ShadowRegistry x = Stage.full();
        x.trim(0);
        Check.due("teach()", x.teach(), 0);
        Check.due("houses()", x.houses(), 0);
        Check.due("laws()", x.laws(), 0);
        Check.due("days()", x.days(), 0);
        Check.due("digest() as that of a new object", x.digest(), new ShadowRegistry().digest());
        Check.due("passDays(5)", x.passDays(5), 0);
    }

    static void promise4TheTapeIsEmptyBehindIt() {
        Check.takes("trim behind a registry", 0, 0, Check.ARGUMENT, () -> Check.taught(HOUSE), (x, n) -> x.trim(n));
        for (String text : new String[] {"house", HOUSE + HOUSE, "law open b;", "house a at 100 high 2;"}) {
            Check.takes("trim behind an error", 0, 0, Check.ARGUMENT, () -> behind(text), (x, n) -> x.trim(n));
        }
    }

    private static ShadowRegistry behind(String text) {
        ShadowRegistry x = Stage.midway();
        Check.tape(x, text);
        x.teach();
        return x;
    }

    static void promise4WithAnErrorAllStaysButTheTape() {
        ShadowRegistry x = Stage.midway();
        long before = x.digest();
        Check.tape(x, "house d at 1 high 4; law raise d by 9; law open d; house e at 1 high 5;");
        Check.due("teach()", x.teach(), 5);
        Check.due("digest()", x.digest(), before);
        Check.due("houses()", x.houses(), 3);
        Check.due("laws()", x.laws(), 4);
        Check.due("days()", x.days(), 2);
        Check.due("curfewFrom(2)", x.curfewFrom(2), 9);
        Check.due("passDays(1) by the laws told before", x.passDays(1), 2);
        Check.due("heightOf(0) by the laws told before", x.heightOf(0), 15);
        Check.refused("placeOf(3) of a house that was not taken", Check.INDEX, () -> behind(HOUSE + HOUSE),
            y -> y.placeOf(3));
    }

    static void promise4AllBeginsAnewWithTheSameText() {
        String text = Stage.STREET + "law raise a by 1; law curfew b from 8 to 9;";
        ShadowRegistry x = Check.taught(text);
        long before = x.digest();
        x.passDays(2);
        x.setCurfew(2, 6, 18);
        x.move(2, 29);
        x.build(1, 30);
        Check.tape(x, text);
        Check.due("teach()", x.teach(), 0);
        Check.due("days()", x.days(), 0);
        Check.due("lawsCarriedOut()", x.lawsCarriedOut(), 0);
        Check.due("hasCurfew(1) by a law", x.hasCurfew(1), false);
        Check.due("hasCurfew(2) by hand", x.hasCurfew(2), false);
        Check.due("heightOf(0)", x.heightOf(0), 12);
        Check.due("heightOf(1)", x.heightOf(1), 2);
        Check.due("placeOf(2)", x.placeOf(2), 30);
        Check.due("digest()", x.digest(), before);
    }

    static void promise4OneHouseInThePlaceOfTwelve() {
        ShadowRegistry x = Stage.full();
        Check.tape(x, "house z at 7 high 8;");
        Check.due("teach()", x.teach(), 0);
        Check.due("houses()", x.houses(), 1);
        Check.due("laws()", x.laws(), 0);
        Check.due("placeOf(0)", x.placeOf(0), 7);
        Check.due("heightOf(0)", x.heightOf(0), 8);
        Check.due("allHoursLost()", x.allHoursLost(), 0);
        Check.due("passDays(30) without laws", x.passDays(30), 0);
        Check.dueText("placeOf(1)", Check.outcome(() -> x.placeOf(1)), Check.INDEX.getName());
    }

    static void promise4NamesOfBeforeAreNotKnownAnyMore() {
        ShadowRegistry x = Check.taught("house old at 1 high 2;");
        Check.tape(x, "house new at 2 high 2; law open old;");
        Check.due("teach() with an old name", x.teach(), 3);
        Check.due("errorAt()", x.errorAt(), 32);
        Check.tape(x, "house old at 1 high 9;");
        Check.due("teach() that tells the old name and place anew", x.teach(), 0);
        Check.due("heightOf(0)", x.heightOf(0), 9);
    }

    static void promise4NamesOfATextWithAnErrorAreNotKnown() {
        ShadowRegistry x = new ShadowRegistry();
        Check.tape(x, "house a at 1 high 2; house b at 1 high 2;");
        Check.due("teach()", x.teach(), 5);
        Check.tape(x, "house a at 1 high 2; house c at 2 high 3; law raise c by 1;");
        Check.due("teach() of the same name and place", x.teach(), 0);
        Check.due("houses()", x.houses(), 2);
        Check.due("laws()", x.laws(), 1);
        Check.due("passDays(1)", x.passDays(1), 1);
    }

    static void promise4OfManyTextsInARowEachIsReadWhole() {
        // 399 tokens: nearly all of them are values and signs that are reckoned
        String text = "house a at 1 high 2;law raise a by 1+2*(" + Stage.repeated("1+", 178)
            + "1)-(day+1)*179 when day<" + Stage.repeated("1-1+", 3) + "9;";
        ShadowRegistry x = new ShadowRegistry();
        for (int turn = 0; turn < 8; turn++) {
            Check.tape(x, text + (turn % 2 == 0 ? "" : "?"));
            Check.due("teach() in turn " + turn, x.teach(), turn % 2 == 0 ? 0 : 1);
        }
        // by 1 + 2 * 179 - 179 on the first day, and by 1 on the second
        Check.due("passDays(1)", x.passDays(1), 1);
        Check.due("heightOf(0)", x.heightOf(0), 30);
        x.build(0, 7);
        Check.due("passDays(1)", x.passDays(1), 1);
        Check.due("heightOf(0)", x.heightOf(0), 8);
    }

    // ---- Promise 5: errorAt

    static void promise5IsMinus1AheadOfAnyTeach() {
        ShadowRegistry x = new ShadowRegistry();
        Check.due("errorAt() of a new object", x.errorAt(), -1);
        Check.tape(x, "?");
        Check.due("errorAt() of a tape that is not read", x.errorAt(), -1);
    }

    static void promise5GoesFrom0To2000() {
        Check.error(1, 0, "?");
        Check.error(1, 1, " ?");
        Check.error(1, 1999, Stage.padded("?", 2000));
        Check.error(1, 2000, Stage.padded("house", 2000));
        Check.error(5, 1997, Stage.padded("house a at 1 high 31;", 2000));
    }

    static void promise5IsMinus1BehindATeachWithoutAnError() {
        ShadowRegistry x = new ShadowRegistry();
        Check.tape(x, HOUSE + "?");
        x.teach();
        Check.due("errorAt() behind an error", x.errorAt(), 20);
        Check.tape(x, HOUSE);
        Check.due("errorAt() ahead of the next teach()", x.errorAt(), 20);
        x.teach();
        Check.due("errorAt() behind none", x.errorAt(), -1);
        Check.tape(x, "?");
        x.teach();
        Check.due("errorAt() behind the next error", x.errorAt(), 0);
        x.teach();
        Check.due("errorAt() behind teach() of the empty tape", x.errorAt(), -1);
    }

    static void promise5IsThatOfTheLatestTeach() {
        ShadowRegistry x = new ShadowRegistry();
        Check.tape(x, HOUSE + HOUSE);
        Check.due("teach()", x.teach(), 2);
        Check.due("errorAt()", x.errorAt(), 26);
        Check.tape(x, "house a at 99 high 31;");
        Check.due("teach()", x.teach(), 5);
        Check.due("errorAt()", x.errorAt(), 19);
        x.passDays(3);
        x.feed(1, 2, 3, 4, 5);
        x.trim(3);
        Check.due("errorAt() behind other calls", x.errorAt(), 19);
    }
}
