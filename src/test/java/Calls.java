/** Calls by name, so that one run of them can go to the class and to Model alike. */
final class Calls {
    private Calls() {
    }

    static long of(LeftAnswers x, String name, int... a) {
        switch (name) {
            case "feed": return x.feed(a[0], a[1], a[2], a[3], a[4]);
            case "end": return x.end(a[0]) ? 1 : 0;
            case "duchy": return x.duchy();
            case "fault": return x.fault();
            case "person": return x.person(a[0], a[1]);
            case "skill": return x.skill(a[0], a[1]);
            case "deed": return x.deed(a[0], a[1]);
            case "now": return x.now(a[0]);
            case "does": return x.does(a[0], a[1], a[2]);
            case "wed": return x.wed(a[0], a[1]);
            case "part": return x.part(a[0]);
            case "glove": return x.glove(a[0]);
            case "bare": return x.bare(a[0]);
            case "days": return x.days(a[0]);
            case "undo": return x.undo();
            case "able": return x.able(a[0], a[1]);
            case "parted": return x.parted();
            case "partedAt": return x.partedAt(a[0], a[1]);
            case "fits": return x.fits();
            case "fitAt": return x.fitAt(a[0]);
            case "test": return x.test();
            case "hears": return x.hears(a[0], a[1]);
            case "guards": return x.guards();
            case "guarding": return x.guarding();
            case "best": return x.best();
            case "bestOf": return x.bestOf(a[0]);
            case "earns": return x.earns(a[0]);
            case "richest": return x.richest();
            case "slip": return x.slip(a[0]);
            case "byteAt": return x.byteAt(a[0]);
            case "drawn": return x.drawn(a[0], a[1]);
            case "odds": return x.odds(a[0], a[1], a[2]);
            case "book": return x.book(a[0]);
            case "told": return x.told(a[0]);
            case "sentence": return x.sentence();
            case "said": return x.said(a[0]);
            case "image": return x.image(a[0]) ? 1 : 0;
            case "restore": return x.restore(a[0]) ? 1 : 0;
            case "count": return x.count(a[0]);
            default: throw new IllegalArgumentException(name);
        }
    }

    static long of(Model x, String name, int... a) {
        switch (name) {
            case "feed": return x.feed(a[0], a[1], a[2], a[3], a[4]);
            case "end": return x.end(a[0]) ? 1 : 0;
            case "duchy": return x.duchy();
            case "fault": return x.fault();
            case "person": return x.person(a[0], a[1]);
            case "skill": return x.skill(a[0], a[1]);
            case "deed": return x.deed(a[0], a[1]);
            case "now": return x.now(a[0]);
            case "does": return x.does(a[0], a[1], a[2]);
            case "wed": return x.wed(a[0], a[1]);
            case "part": return x.part(a[0]);
            case "glove": return x.glove(a[0]);
            case "bare": return x.bare(a[0]);
            case "days": return x.days(a[0]);
            case "undo": return x.undo();
            case "able": return x.able(a[0], a[1]);
            case "parted": return x.parted();
            case "partedAt": return x.partedAt(a[0], a[1]);
            case "fits": return x.fits();
            case "fitAt": return x.fitAt(a[0]);
            case "test": return x.test();
            case "hears": return x.hears(a[0], a[1]);
            case "guards": return x.guards();
            case "guarding": return x.guarding();
            case "best": return x.best();
            case "bestOf": return x.bestOf(a[0]);
            case "earns": return x.earns(a[0]);
            case "richest": return x.richest();
            case "slip": return x.slip(a[0]);
            case "byteAt": return x.byteAt(a[0]);
            case "drawn": return x.drawn(a[0], a[1]);
            case "odds": return x.odds(a[0], a[1], a[2]);
            case "book": return x.book(a[0]);
            case "told": return x.told(a[0]);
            case "sentence": return x.sentence();
            case "said": return x.said(a[0]);
            case "image": return x.image(a[0]) ? 1 : 0;
            case "restore": return x.restore(a[0]) ? 1 : 0;
            case "count": return x.count(a[0]);
            default: throw new IllegalArgumentException(name);
        }
    }
}
