/** Promises 12 to 17: apart to dateLine. RefusedTest has what they refuse. */
final class RingTest {

    private static final int[] DIVISORS = {
        1, 2, 3, 4, 5, 6, 8, 9, 10, 12, 15, 18, 20, 24, 30, 36, 40, 45, 60, 72, 90, 120, 180, 360};

    private RingTest() {
    }

    static void run() {
        apartGoesTheShorterWay();
        ringWayMeasuresTheRing();
        ringWayTakesTheEndsOfItsRanges();
        zonesTakesDivisors();
        zonesTellsTheBreadthBefore();
        zoneIsNumberedEastwards();
        zonesOfEachBreadth();
        seamsOfNamedWays();
        seamsOfWaysThatAreAlike();
        seamsOfOneZone();
        seamsBetweenNeighbours();
        dateLineOfNamedWays();
        dateLineOfWaysThatAreAlike();
        seamsAndDateLineOfAllWays();
    }

    private static void apartGoesTheShorterWay() {
        Check.promise(12);
        AtlasFolder atlas = new AtlasFolder();
        Check.due("apart(170, -170)", 20, atlas.apart(170, -170));
        Check.due("apart(-170, 170)", 20, atlas.apart(-170, 170));
        Check.due("apart(-180, 179), round the ring", 1, atlas.apart(-180, 179));
        Check.due("apart(179, -180), round the ring", 1, atlas.apart(179, -180));
        Check.due("apart(-180, 0)", 180, atlas.apart(-180, 0));
        Check.due("apart(0, -180)", 180, atlas.apart(0, -180));
        Check.due("apart(-1, 179)", 180, atlas.apart(-1, 179));
        Check.due("apart(-180, -1)", 179, atlas.apart(-180, -1));
        Check.due("apart(-180, 1)", 179, atlas.apart(-180, 1));
        Check.due("apart(-2, 179)", 179, atlas.apart(-2, 179));
        Check.due("apart(0, 179)", 179, atlas.apart(0, 179));
        Check.due("apart(33, 33)", 0, atlas.apart(33, 33));
        Check.due("apart(-180, -180)", 0, atlas.apart(-180, -180));
        Check.due("apart(179, 179)", 0, atlas.apart(179, 179));
    }

    private static void ringWayMeasuresTheRing() {
        Check.promise(13);
        AtlasFolder atlas = new AtlasFolder();
        Check.due("ringWay(60, 170, -170)", 80000, atlas.ringWay(60, 170, -170));
        Check.due("ringWay(60, -170, 170)", 80000, atlas.ringWay(60, -170, 170));
        Check.due("ringWay(-65, 0, -180)", 180 * 3500, atlas.ringWay(-65, 0, -180));
        Check.due("ringWay(-65, 0, 179)", 179 * 3500, atlas.ringWay(-65, 0, 179));
        Check.due("ringWay(59, -180, 1)", 179 * 4100, atlas.ringWay(59, -180, 1));
        Check.due("ringWay(0, 5, 5) without a way", 0, atlas.ringWay(0, 5, 5));
        atlas.table(6, 0, 6000);
        Check.due("ringWay(-60) without width", 0, atlas.ringWay(-60, 170, -170));
        Check.due("ringWay(59) next to it", 20 * 500, atlas.ringWay(59, 170, -170));
    }

    private static void ringWayTakesTheEndsOfItsRanges() {
        Check.promise(13);
        AtlasFolder atlas = new AtlasFolder();
        Check.due("ringWay(90, -180, 179)", 1000, atlas.ringWay(90, -180, 179));
        Check.due("ringWay(-90, 179, -180)", 1000, atlas.ringWay(-90, 179, -180));
        Check.due("ringWay(0, 0, -180)", 1800000, atlas.ringWay(0, 0, -180));
        Check.due("ringWay(0, 179, -1)", 1800000, atlas.ringWay(0, 179, -1));
    }

    private static void zonesTakesDivisors() {
        Check.promise(14);
        AtlasFolder atlas = new AtlasFolder();
        int before = 15;
        for (int breadth : DIVISORS) {
            Check.due("zones(" + breadth + ")", before, atlas.zones(breadth));
            before = breadth;
        }
        for (int times = 1; times <= 360; times++) {
            for (int breadth : DIVISORS) {
                if (times * breadth == 360) {
                    Check.due("zones(" + breadth + ") down", before, atlas.zones(breadth));
                    before = breadth;
                }
            }
        }
    }

    private static void zonesTellsTheBreadthBefore() {
        Check.promise(14);
        AtlasFolder atlas = new AtlasFolder();
        Check.due("zones(360) at first", 15, atlas.zones(360));
        Check.due("zones(360) again", 360, atlas.zones(360));
        Check.due("zones(361)", "throws.IllegalArgumentException",
                Check.answer(() -> atlas.zones(361)));
        Check.due("zones(1) after what threw", 360, atlas.zones(1));
        Check.due("zones(15)", 1, atlas.zones(15));
    }

    private static void zoneIsNumberedEastwards() {
        Check.promise(15);
        AtlasFolder atlas = new AtlasFolder();
        Check.due("zone(-180)", 0, atlas.zone(-180));
        Check.due("zone(-166)", 0, atlas.zone(-166));
        Check.due("zone(-165)", 1, atlas.zone(-165));
        Check.due("zone(-1)", 11, atlas.zone(-1));
        Check.due("zone(0)", 12, atlas.zone(0));
        Check.due("zone(164)", 22, atlas.zone(164));
        Check.due("zone(165)", 23, atlas.zone(165));
        Check.due("zone(179)", 23, atlas.zone(179));
    }

    private static void zonesOfEachBreadth() {
        Check.promise(15);
        for (int breadth : DIVISORS) {
            AtlasFolder atlas = new AtlasFolder();
            atlas.zones(breadth);
            int zone = 0;
            int left = breadth;
            for (int longitude = -180; longitude <= 179; longitude++) {
                if (left == 0) {
                    zone++;
                    left = breadth;
                }
                Check.due("zone(" + longitude + ") by " + breadth, zone, atlas.zone(longitude));
                left--;
            }
        }
    }

    private static void seamsOfNamedWays() {
        Check.promise(16);
        AtlasFolder atlas = new AtlasFolder();
        Check.due("seams(170, -170)", 1, atlas.seams(170, -170));
        Check.due("seams(-170, 170)", 1, atlas.seams(-170, 170));
        Check.due("seams(7, 7) without a way", 0, atlas.seams(7, 7));
        Check.due("seams(179, 179)", 0, atlas.seams(179, 179));
        Check.due("seams(-180, -180)", 0, atlas.seams(-180, -180));
        Check.due("seams(0, 14) within a zone", 0, atlas.seams(0, 14));
        Check.due("seams(14, 0) within a zone", 0, atlas.seams(14, 0));
        Check.due("seams(0, 15)", 1, atlas.seams(0, 15));
        Check.due("seams(15, 0)", 1, atlas.seams(15, 0));
        Check.due("seams(-1, 15)", 2, atlas.seams(-1, 15));
        Check.due("seams(164, -165)", 3, atlas.seams(164, -165));
        atlas.zones(1);
        Check.due("seams(90, -90) of 360 zones", 180, atlas.seams(90, -90));
        Check.due("seams(-180, -1) of 360 zones", 179, atlas.seams(-180, -1));
        Check.due("seams(-180, 1) of 360 zones", 179, atlas.seams(-180, 1));
    }

    /** In zones of 120 degrees 180 degrees to the east cross another number than to the west. */
    private static void seamsOfWaysThatAreAlike() {
        Check.promise(16);
        AtlasFolder atlas = new AtlasFolder();
        Check.due("seams(0, -180)", 12, atlas.seams(0, -180));
        Check.due("seams(-180, 0)", 12, atlas.seams(-180, 0));
        atlas.zones(120);
        Check.due("seams(-180, 0), to the east", 1, atlas.seams(-180, 0));
        Check.due("seams(0, -180), to the east", 2, atlas.seams(0, -180));
        Check.due("seams(-1, 179), to the east", 1, atlas.seams(-1, 179));
        Check.due("seams(179, -1), to the east", 2, atlas.seams(179, -1));
        Check.due("seams(0, -179), to the west", 1, atlas.seams(0, -179));
        Check.due("seams(0, 179), to the east", 1, atlas.seams(0, 179));
    }

    private static void seamsOfOneZone() {
        Check.promise(16);
        AtlasFolder atlas = new AtlasFolder();
        atlas.zones(360);
        Check.due("seams(179, -180)", 1, atlas.seams(179, -180));
        Check.due("seams(-180, 179)", 1, atlas.seams(-180, 179));
        Check.due("seams(10, 20)", 0, atlas.seams(10, 20));
        Check.due("seams(-180, 0), alike ways", 0, atlas.seams(-180, 0));
        Check.due("seams(0, -180), alike ways", 1, atlas.seams(0, -180));
        Check.due("seams(-180, -180)", 0, atlas.seams(-180, -180));
    }

    private static void seamsBetweenNeighbours() {
        for (int breadth : DIVISORS) {
            AtlasFolder east = new AtlasFolder();
            AtlasFolder west = new AtlasFolder();
            east.zones(breadth);
            west.zones(breadth);
            Check.promise(16);
            for (int one = -180; one <= 179; one++) {
                int other = one == 179 ? -180 : one + 1;
                int due = (other + 180) % breadth == 0 ? 1 : 0;
                Check.due("seams(" + one + ", +1) by " + breadth, due, east.seams(one, other));
                Check.due("seams(" + other + ", -1) by " + breadth, due, west.seams(other, one));
            }
        }
    }

    private static void dateLineOfNamedWays() {
        Check.promise(17);
        AtlasFolder atlas = new AtlasFolder();
        Check.due("dateLine(170, -170)", 1, atlas.dateLine(170, -170));
        Check.due("dateLine(-170, 170)", -1, atlas.dateLine(-170, 170));
        Check.due("dateLine(179, -180)", 1, atlas.dateLine(179, -180));
        Check.due("dateLine(-180, 179)", -1, atlas.dateLine(-180, 179));
        Check.due("dateLine(178, 179)", 0, atlas.dateLine(178, 179));
        Check.due("dateLine(-180, -179)", 0, atlas.dateLine(-180, -179));
        Check.due("dateLine(-1, 0)", 0, atlas.dateLine(-1, 0));
        Check.due("dateLine(0, -1)", 0, atlas.dateLine(0, -1));
        Check.due("dateLine(179, 179)", 0, atlas.dateLine(179, 179));
        Check.due("dateLine(-180, -180)", 0, atlas.dateLine(-180, -180));
        Check.due("dateLine(0, -179)", 0, atlas.dateLine(0, -179));
        Check.due("dateLine(1, -180)", 1, atlas.dateLine(1, -180));
        Check.due("dateLine(-180, 1)", -1, atlas.dateLine(-180, 1));
        atlas.zones(360);
        Check.due("dateLine(179, -180) of one zone", 1, atlas.dateLine(179, -180));
        Check.due("dateLine(-180, 179) of one zone", -1, atlas.dateLine(-180, 179));
    }

    private static void dateLineOfWaysThatAreAlike() {
        AtlasFolder atlas = new AtlasFolder();
        for (int east = 0; east <= 179; east++) {
            int west = east - 180;
            Check.promise(17);
            Check.due("dateLine(" + west + ", " + east + ")", 0, atlas.dateLine(west, east));
            Check.due("dateLine(" + east + ", " + west + ")", 1, atlas.dateLine(east, west));
        }
    }

    private static void seamsAndDateLineOfAllWays() {
        int[] breadths = {1, 8, 15, 90, 120, 180, 360};
        for (int breadth : breadths) {
            NaiveAtlas naive = new NaiveAtlas();
            naive.zones(breadth);
            for (int one = -180; one <= 179; one += 7) {
                waysFrom(one, breadth, naive);
            }
        }
    }

    private static void waysFrom(int one, int breadth, NaiveAtlas naive) {
        AtlasFolder seams = new AtlasFolder();
        AtlasFolder dateLine = new AtlasFolder();
        AtlasFolder apart = new AtlasFolder();
        seams.zones(breadth);
        dateLine.zones(breadth);
        for (int other = -180; other <= 179; other++) {
            String way = "(" + one + ", " + other + ") by " + breadth;
            Check.promise(16);
            Check.due("seams" + way, naive.seams(one, other), seams.seams(one, other));
            Check.promise(17);
            Check.due("dateLine" + way, naive.dateLine(one, other), dateLine.dateLine(one, other));
            Check.promise(12);
            Check.due("apart" + way, naive.apart(one, other), apart.apart(one, other));
        }
    }
}
