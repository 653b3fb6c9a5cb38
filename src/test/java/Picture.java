/** All that can be asked of an object without changing it, as one text; clash() is left out. */
final class Picture {
    private Picture() {
    }

    static String of(Patchferry x) {
        StringBuilder all = new StringBuilder();
        files(x, all);
        patches(x, all);
        disk(x, all);
        versions(x, all);
        all.append(" stored ").append(x.stored());
        return all.toString();
    }

    private static void files(Patchferry x, StringBuilder all) {
        for (int file = 0; file < x.files(); file++) {
            all.append("\nfile");
            for (int place = 0; place < x.length(file); place++) {
                all.append(' ').append(x.at(file, place));
            }
            all.append(" pieces ").append(x.pieces(file)).append(" was ");
            try {
                all.append(x.renamed(file));
            } catch (java.util.NoSuchElementException e) {
                all.append("none");
            }
        }
    }

    private static void patches(Patchferry x, StringBuilder all) {
        for (int patch = 0; patch < 21; patch++) {
            try {
                x.operations(patch);
            } catch (IndexOutOfBoundsException e) {
                return;
            }
            all.append("\npatch ").append(Check.text(x, patch)).append(' ').append(x.bytes(patch));
        }
    }

    private static void disk(Patchferry x, StringBuilder all) {
        all.append("\ndisk");
        for (int place = 0; place < x.diskLength(); place++) {
            all.append(' ').append(x.onDisk(place));
        }
        all.append(" whole ").append(x.isWhole()).append(" saved ");
        try {
            all.append(x.savedBytes());
        } catch (java.util.NoSuchElementException e) {
            all.append("none");
        }
        all.append(" order");
        for (int index = 0; index < 11; index++) {
            try {
                all.append(' ').append(x.orderAt(index));
            } catch (IndexOutOfBoundsException e) {
                return;
            }
        }
    }

    private static void versions(Patchferry x, StringBuilder all) {
        for (int version = 0; version < 13; version++) {
            try {
                all.append("\nversion ").append(x.fetch(version)).append(' ').append(x.route(version, 0));
            } catch (IndexOutOfBoundsException e) {
                break;
            }
        }
        try {
            all.append(" fleet ").append(x.fleet(0)).append(' ').append(x.fleet(2));
        } catch (java.util.NoSuchElementException e) {
            all.append(" no fleet");
        }
    }
}
