/** All that the calls tell about an atlas, in one text, so that two states can be held together. */
final class Seen {

    private final AtlasFolder atlas;
    private final StringBuilder text = new StringBuilder();

    private Seen(AtlasFolder atlas) {
        this.atlas = atlas;
    }

    /** The atlas is unfolded at the end: only so do the folds show. */
    static String of(AtlasFolder atlas) {
        Seen seen = new Seen(atlas);
        seen.lookAtTable();
        seen.lookAtBands();
        seen.tell("breadth", seen.breadth());
        seen.lookAtSheet();
        seen.tell("folds", atlas.unfold());
        return seen.text.toString();
    }

    private void tell(String name, Object value) {
        text.append(name).append(' ').append(value).append("; ");
    }

    private void lookAtTable() {
        for (int row = 0; row <= 9; row++) {
            tell("width " + row, atlas.x(10 * row, 1));
            tell("height " + row, atlas.y(10 * row));
        }
    }

    private void lookAtBands() {
        tell("keepsAreas", atlas.keepsAreas());
        tell("widest", atlas.widest());
        for (int band = 0; band <= 8; band++) {
            tell("stretch " + band, atlas.stretch(band));
            int truth = atlas.truth(band, 1);
            tell("truth " + band, truth);
            atlas.truth(band, truth);
        }
    }

    private int breadth() {
        int breadth = atlas.zones(1);
        atlas.zones(breadth);
        return breadth;
    }

    private void lookAtSheet() {
        int last = atlas.panel(-90, 179);
        tell("last panel", last);
        for (int column = 0; column <= last / 10; column++) {
            for (int row = 0; row <= last % 10; row++) {
                tell("panel " + column + " " + row, atlas.placeX(column, row) + " "
                        + atlas.placeY(column, row) + " " + atlas.above(column, row) + " "
                        + atlas.isUp(column, row));
            }
        }
        tell("thickness", atlas.thickness());
        tell("readable", atlas.readable());
    }
}
