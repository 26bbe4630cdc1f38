/** All that can be asked of an object, as one text: objects that stand alike look alike. */
final class Look {
  private final QuotaLicences x;
  private final StringBuilder answers = new StringBuilder();

  private Look(QuotaLicences x) {
    this.x = x;
  }

  /** What is undone and kept. */
  static String ofState(QuotaLicences x) {
    Look look = new Look(x);
    look.atScheme();
    for (int origin = 0; origin < x.count(0); origin++) {
      look.atOrigin(origin);
    }
    for (int importer = 0; importer < x.count(1); importer++) {
      look.atImporter(importer);
      for (int origin = 0; origin < x.count(0); origin++) {
        look.atPair(importer, origin);
      }
    }
    for (int licence = 0; licence < x.count(2); licence++) {
      look.atLicence(licence);
    }
    return look.answers.toString();
  }

  /** And what stays aside: how long the tape is, the acts, the shelves, the notes. */
  static String ofAll(QuotaLicences x) {
    Look look = new Look(x);
    look.note("aside");
    for (int what = 5; what <= 8; what++) {
      look.add(x.count(what));
    }
    for (int k = 0; k < x.count(8); k++) {
      look.add(x.noted(k));
    }
    return ofState(x) + look.answers;
  }

  private void add(long answer) {
    answers.append(' ').append(answer);
  }

  private void note(String what) {
    answers.append('\n').append(what).append(':');
  }

  private void atScheme() {
    note("scheme");
    for (int what = 0; what < 5; what++) {
      add(x.count(what));
      add(x.total(what));
      add(x.told(what));
    }
    add(x.told(5));
    add(x.next(-1));
    add(x.next(0));
    add(x.risk(-1));
    add(x.risk(0));
    add(x.window());
    add(x.lapses(1));
    add(x.lapses(90));
    add(x.letter(-1));
  }

  private void atOrigin(int origin) {
    note("origin " + origin);
    for (int what = 0; what < 8; what++) {
      add(x.origin(origin, what));
    }
    add(x.focus(origin));
    add(x.carry(origin));
    add(x.fastest(origin));
    add(x.likely(origin));
    add(x.median(origin));
    add(x.stood(origin, x.count(4) - 1));
    add(x.peak(origin, 1, 0));
    add(x.peak(origin, 1, 1));
    add(x.peak(origin, 12, 1));
    for (int what = 0; what < 5; what++) {
      add(x.log(0, origin, what));
      add(x.log(7, origin, what));
    }
    for (int i = 1; i < 7; i++) {
      add(x.log(i, origin, 2));
    }
  }

  private void atImporter(int importer) {
    note("importer " + importer);
    for (int month = 0; month < 12; month++) {
      add(x.month(importer, month));
    }
    add(x.rate(importer));
    add(x.owed(importer));
    add(x.order(importer));
    add(x.pace(importer));
    add(x.owing(importer));
    for (int what = 0; what < 4; what++) {
      add(x.holds(importer, what));
    }
    add(x.best(importer, 5, 0));
    add(x.best(importer, 99999, 1));
  }

  private void atPair(int importer, int origin) {
    note("importer " + importer + ", origin " + origin);
    for (int year = 0; year < 4; year++) {
      add(x.past(importer, origin, year));
    }
    add(x.sort(importer, origin));
    add(x.mean(importer, origin));
    add(x.share(importer, origin, 0));
    add(x.share(importer, origin, 1));
    add(x.shareAt(importer, origin, 50));
    add(x.idle(importer, origin));
    add(x.would(importer, origin, 1));
    add(x.would(importer, origin, 99999));
    add(x.lacks(importer, origin, 99999));
    add(x.even(importer, origin));
    add(x.future(importer, origin));
    add(x.rush(importer, origin, 5));
  }

  private void atLicence(int licence) {
    note("licence " + licence);
    for (int what = 0; what < 8; what++) {
      add(x.licence(licence, what));
    }
    add(x.speed(licence));
    add(x.root(licence, 0));
    add(x.root(licence, 1));
  }
}
