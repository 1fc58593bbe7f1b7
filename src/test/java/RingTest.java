/** Promises 12 to 17: apart, ringWay, zones, zone, seams, dateLine. */
final class RingTest {

    private static final int[] NO_LONGITUDES = {-181, 180, Integer.MIN_VALUE, Integer.MAX_VALUE};

    private RingTest() {
    }

    static void run() {
        apartGoesTheShorterWay();
        ringWayMeasuresTheRing();
        zonesTakesDivisors();
        zoneIsNumberedEastwards();
        seamsAndDateLineOfNamedWays();
        seamsAndDateLineOfAllWays();
        longitudesAreRefused();
    }

    private static void apartGoesTheShorterWay() {
        AtlasFolder atlas = new AtlasFolder();
        Check.due("apart(170, -170)", 20, atlas.apart(170, -170));
        Check.due("apart(-170, 170)", 20, atlas.apart(-170, 170));
        Check.due("apart(-180, 0)", 180, atlas.apart(-180, 0));
        Check.due("apart(0, -180)", 180, atlas.apart(0, -180));
        Check.due("apart(-180, 179)", 1, atlas.apart(-180, 179));
        Check.due("apart(-180, 1)", 179, atlas.apart(-180, 1));
        Check.due("apart(-1, 179)", 180, atlas.apart(-1, 179));
        Check.due("apart(-2, 179)", 179, atlas.apart(-2, 179));
        Check.due("apart(33, 33)", 0, atlas.apart(33, 33));
    }

    private static void ringWayMeasuresTheRing() {
        AtlasFolder atlas = new AtlasFolder();
        Check.due("ringWay(60, 170, -170)", 80000, atlas.ringWay(60, 170, -170));
        Check.due("ringWay(-65, 0, -180)", 180 * 3500, atlas.ringWay(-65, 0, -180));
        Check.due("ringWay(90, -180, 179)", 1000, atlas.ringWay(90, -180, 179));
        Check.due("ringWay(-90, 5, 5)", 0, atlas.ringWay(-90, 5, 5));
        Check.due("ringWay(0, 0, -180)", 1800000, atlas.ringWay(0, 0, -180));
        atlas.table(6, 0, 6000);
        Check.due("ringWay(60) without width", 0, atlas.ringWay(60, 170, -170));
        Check.argument("ringWay(91, 0, 0)", () -> atlas.ringWay(91, 0, 0));
        Check.argument("ringWay(-91, 0, 0)", () -> atlas.ringWay(-91, 0, 0));
        Check.argument("ringWay(least, 0, 0)", () -> atlas.ringWay(Integer.MIN_VALUE, 0, 0));
    }

    private static void zonesTakesDivisors() {
        AtlasFolder atlas = new AtlasFolder();
        int before = 15;
        for (int breadth = -2; breadth <= 721; breadth++) {
            int next = breadth;
            if (divides360(next)) {
                Check.due("zones(" + next + ")", before, atlas.zones(next));
                before = next;
            } else {
                Check.argument("zones(" + next + ")", () -> atlas.zones(next));
            }
        }
        Check.argument("zones(least)", () -> atlas.zones(Integer.MIN_VALUE));
        Check.argument("zones(greatest)", () -> atlas.zones(Integer.MAX_VALUE));
        Check.due("zones after what threw", 360, atlas.zones(1));
    }

    private static boolean divides360(int breadth) {
        for (int times = 1; times <= 360; times++) {
            if (times * breadth == 360) {
                return true;
            }
        }
        return false;
    }

    private static void zoneIsNumberedEastwards() {
        AtlasFolder atlas = new AtlasFolder();
        Check.due("zone(-180)", 0, atlas.zone(-180));
        Check.due("zone(-166)", 0, atlas.zone(-166));
        Check.due("zone(-165)", 1, atlas.zone(-165));
        Check.due("zone(-1)", 11, atlas.zone(-1));
        Check.due("zone(0)", 12, atlas.zone(0));
        Check.due("zone(179)", 23, atlas.zone(179));
        atlas.zones(1);
        Check.due("zone(179) of 360", 359, atlas.zone(179));
        Check.due("zone(-180) of 360", 0, atlas.zone(-180));
        atlas.zones(360);
        Check.due("zone(179) of 1", 0, atlas.zone(179));
    }

    private static void seamsAndDateLineOfNamedWays() {
        AtlasFolder atlas = new AtlasFolder();
        Check.due("seams(170, -170)", 1, atlas.seams(170, -170));
        Check.due("seams(0, -180)", 12, atlas.seams(0, -180));
        Check.due("seams(-180, 0)", 12, atlas.seams(-180, 0));
        Check.due("seams(-1, 179)", 12, atlas.seams(-1, 179));
        Check.due("seams(7, 7)", 0, atlas.seams(7, 7));
        Check.due("dateLine(170, -170)", 1, atlas.dateLine(170, -170));
        Check.due("dateLine(-170, 170)", -1, atlas.dateLine(-170, 170));
        Check.due("dateLine(0, -180)", 1, atlas.dateLine(0, -180));
        Check.due("dateLine(-180, 0), alike ways", 0, atlas.dateLine(-180, 0));
        Check.due("dateLine(-1, 179), alike ways", 0, atlas.dateLine(-1, 179));
        Check.due("dateLine(179, -1), alike ways", 1, atlas.dateLine(179, -1));
        Check.due("dateLine(179, 179)", 0, atlas.dateLine(179, 179));
        Check.due("dateLine(-180, -180)", 0, atlas.dateLine(-180, -180));
        atlas.zones(360);
        Check.due("seams(179, -180) of one zone", 1, atlas.seams(179, -180));
        Check.due("seams(-180, 179) of one zone", 1, atlas.seams(-180, 179));
        Check.due("seams(10, 20) of one zone", 0, atlas.seams(10, 20));
        atlas.zones(1);
        Check.due("seams(90, -90) of 360 zones", 180, atlas.seams(90, -90));
    }

    private static void seamsAndDateLineOfAllWays() {
        int[] breadths = {1, 8, 15, 90, 180, 360};
        for (int breadth : breadths) {
            AtlasFolder atlas = new AtlasFolder();
            NaiveAtlas naive = new NaiveAtlas();
            atlas.zones(breadth);
            naive.zones(breadth);
            for (int one = -180; one <= 179; one += 7) {
                for (int other = -180; other <= 179; other++) {
                    String way = "(" + one + ", " + other + ") by " + breadth;
                    Check.due("seams" + way, naive.seams(one, other), atlas.seams(one, other));
                    Check.due("dateLine" + way, naive.dateLine(one, other),
                            atlas.dateLine(one, other));
                    Check.due("apart" + way, naive.apart(one, other), atlas.apart(one, other));
                }
            }
        }
    }

    private static void longitudesAreRefused() {
        AtlasFolder atlas = new AtlasFolder();
        for (int no : NO_LONGITUDES) {
            Check.argument("apart(" + no + ", 0)", () -> atlas.apart(no, 0));
            Check.argument("apart(0, " + no + ")", () -> atlas.apart(0, no));
            Check.argument("ringWay(0, " + no + ", 0)", () -> atlas.ringWay(0, no, 0));
            Check.argument("ringWay(0, 0, " + no + ")", () -> atlas.ringWay(0, 0, no));
            Check.argument("zone(" + no + ")", () -> atlas.zone(no));
            Check.argument("seams(" + no + ", 0)", () -> atlas.seams(no, 0));
            Check.argument("seams(0, " + no + ")", () -> atlas.seams(0, no));
            Check.argument("dateLine(" + no + ", 0)", () -> atlas.dateLine(no, 0));
            Check.argument("dateLine(0, " + no + ")", () -> atlas.dateLine(0, no));
        }
    }
}
