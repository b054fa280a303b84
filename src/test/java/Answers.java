import java.util.ArrayList;
import java.util.List;

/** Asks an object all that its calls tell without changing anything, numbers that are not there among them. */
final class Answers {
    private static final int MOST_UNITS = 10;
    private static final int MOST_SHOPS = 10;
    private static final int MOST_CREWS = 4;

    private final TwofrontArcade x;
    private final List<String> told = new ArrayList<>();

    private Answers(TwofrontArcade x) {
        this.x = x;
    }

    static List<String> of(TwofrontArcade x) {
        Answers answers = new Answers(x);
        for (int unit = -1; unit <= MOST_UNITS; unit++) {
            answers.ofUnit(unit);
        }
        for (int shop = -1; shop <= MOST_SHOPS; shop++) {
            answers.ofShop(shop);
        }
        for (int crew = -1; crew <= MOST_CREWS; crew++) {
            int number = crew;
            answers.put("canWork", crew, () -> x.canWork(number));
        }
        answers.ofAll();
        return answers.told;
    }

    private interface Question {
        Object ask();
    }

    private void put(String call, Question question) {
        String answer;
        try {
            answer = String.valueOf(question.ask());
        } catch (RuntimeException e) {
            answer = e.getClass().getName();
        }
        told.add(call + " " + answer);
    }

    private void put(String call, int number, Question question) {
        put(call + "(" + number + ")", question);
    }

    private void ofUnit(int unit) {
        put("work", unit, () -> x.work(unit));
        put("left", unit, () -> x.left(unit));
        put("whyNot", unit, () -> x.whyNot(unit));
        put("flow", unit, () -> x.flow(unit));
        put("room", unit, () -> x.room(unit));
        put("startIn", unit, () -> x.startIn(unit));
        for (char cause : new char[] {'s', 'c', 'q', 'p'}) {
            put("lostDays by " + cause, unit, () -> x.lostDays(unit, cause));
        }
    }

    private void ofShop(int shop) {
        put("state", shop, () -> x.state(shop));
        put("unitOf", shop, () -> x.unitOf(shop));
        put("homeOf", shop, () -> x.homeOf(shop));
        put("comes", shop, () -> x.comes(shop));
        put("mayBeShut", shop, () -> x.mayBeShut(shop));
        put("seen", shop, () -> x.seen(shop));
        put("known", shop, () -> x.known(shop));
        put("isDusty", shop, () -> x.isDusty(shop));
        put("took", shop, () -> x.took(shop));
        put("rent", shop, () -> x.rent(shop));
        for (char cause : new char[] {'h', 'm', 'd', 's'}) {
            put("lost by " + cause, shop, () -> x.lost(shop, cause));
        }
    }

    private void ofAll() {
        put("areWide", x::areWide);
        put("day", x::day);
        put("shortest", x::shortest);
        put("fund", x::fund);
        put("checksum", x::checksum);
        put("openShare", x::openShare);
        put("meanTaken", x::meanTaken);
        put("isSound", x::isSound);
    }
}
