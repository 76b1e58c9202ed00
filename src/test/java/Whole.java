/** Tells all that can be seen of an object. Each part is asked of a new one, so that none has more than 512 calls. */
final class Whole {
    interface Maker {
        BulletLanes make();
    }

    interface Call {
        int on(BulletLanes x);
    }

    private Whole() {
    }

    /** Everything: the field, what the pad holds, the states of the history, and the snapshot. */
    static String everything(Maker maker) {
        StringBuilder all = new StringBuilder(withoutPad(maker));
        all.append("\npad ").append(pad(maker));
        return all.toString();
    }

    static String withoutPad(Maker maker) {
        StringBuilder all = new StringBuilder("now ").append(field(maker));
        BulletLanes counted = maker.make();
        all.append("\nlength ").append(counted.count(17)).append(" states ").append(counted.count(18));
        for (int undone = 1; undone <= 5; undone++) {
            int times = undone;
            all.append("\nundone ").append(field(() -> afterUndos(maker, times)));
        }
        BulletLanes y = maker.make();
        all.append("\nrestore ").append(y.restore());
        all.append(' ').append(field(() -> {
            BulletLanes x = maker.make();
            x.restore();
            return x;
        }));
        return all.toString();
    }

    private static BulletLanes afterUndos(Maker maker, int times) {
        BulletLanes x = maker.make();
        for (int i = 0; i < times; i++) {
            x.undo();
        }
        return x;
    }

    /** The emitters, the bullets, the sprite, the accounts and the settings. */
    static String field(Maker maker) {
        StringBuilder all = new StringBuilder();
        BulletLanes x = maker.make();
        for (int what = 0; what <= 16; what++) {
            all.append(x.count(what)).append(' ');
        }
        for (int emitter = 0; emitter < 4; emitter++) {
            for (int what = 0; what < 5; what++) {
                all.append(x.emitterOf(emitter, what)).append(' ');
            }
        }
        int bullets = x.count(1);
        BulletLanes y = maker.make();
        for (int bullet = 0; bullet < bullets; bullet++) {
            all.append('|');
            for (int what = 0; what < 5; what++) {
                all.append(y.bullet(bullet, what)).append(' ');
            }
        }
        return all.toString();
    }

    /** What can be found out about the signs on the pad: by its faults, and by hanging and playing it. */
    private static String pad(Maker maker) {
        StringBuilder all = new StringBuilder();
        BulletLanes x = maker.make();
        all.append(x.fault(0)).append(' ').append(x.fault(1)).append(' ').append(x.count(17));
        BulletLanes played = maker.make();
        all.append("; played ").append(played.play()).append(' ').append(field(() -> played));
        BulletLanes hung = maker.make();
        all.append("; hung ").append(hung.hang()).append(' ').append(field(() -> hung));
        all.append("; cleared ").append(maker.make().clear());
        return all.toString();
    }

    static Maker after(Maker maker, Call call) {
        return () -> {
            BulletLanes x = maker.make();
            call.on(x);
            return x;
        };
    }

    /** The call answers what is due and leaves everything as it was. */
    static void dueUnchanged(String what, Maker maker, Call call, int want) {
        Check.due(what, call.on(maker.make()), want);
        dueSame(what, maker, call);
    }

    static void dueSame(String what, Maker maker, Call call) {
        String before = everything(maker);
        String behind = everything(after(maker, call));
        Check.due(what + " leaves everything as it was", before.equals(behind) ? 1 : 0, 1);
    }
}
