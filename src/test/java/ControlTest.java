/** Promise 2 (type), and how the text of a control is read. */
public final class ControlTest {
    public static void main(String[] args) {
        Check c = new Check("ControlTest");
        characters(c);
        fortyAtMost(c);
        refusedCallsKeepTheDraft(c);
        lifetimes(c);
        requestControls(c);
        c.end();
    }

    private static void characters(Check c) {
        for (int code = 0; code < 300; code++) {
            FrontCache x = new FrontCache(12);
            c.due("type((char) " + code + ")", x.type((char) code), code >= 32 && code <= 126);
        }
        c.due("type((char) 65535)", new FrontCache(12).type((char) 65535), false);
    }

    private static void fortyAtMost(Check c) {
        FrontCache x = new FrontCache(12);
        Check.type(x, "                               max-age=7");
        c.due("type('5') behind 40", x.type('5'), false);
        x.publish(1, 1, false);
        Check.fetch(x, 1, 0);
        c.due("entry(0, 3)", x.entry(0, 3), 7);
        c.due("type('5') in the new draft", x.type('5'), true);
    }

    private static void refusedCallsKeepTheDraft(Check c) {
        FrontCache x = new FrontCache(12);
        Check.type(x, "max-age=6");
        x.type((char) 31);
        x.type((char) 127);
        x.publish(8, 1, false);
        x.publish(1, 0, false);
        x.get(8, 0, 0);
        x.get(1, 4, 0);
        x.get(1, 0, -1);
        x.put(1, 10);
        x.put(1, 1);
        x.delete(4);
        x.withdraw(1);
        Check.settle(x);
        x.publish(1, 1, false);
        Check.fetch(x, 1, 0);
        c.due("entry(0, 3)", x.entry(0, 3), 6);
    }

    private static void lifetimes(Check c) {
        lifetime(c, "max-age=5", 5);
        lifetime(c, "max-age=00005", 5);
        lifetime(c, "max-age=99999", 99999);
        lifetime(c, "max-age=100000", -1);
        lifetime(c, "max-age=000005", -1);
        lifetime(c, "max-age=0", 0);
        lifetime(c, "max-age", 0);
        lifetime(c, "max-age=", -1);
        lifetime(c, "max-age=5x", -1);
        lifetime(c, "max-age=-5", -1);
        lifetime(c, "max-age==5", -1);
        lifetime(c, "max-age =5", -1);
        lifetime(c, "max-age= 5", -1);
        lifetime(c, "max -age=5", -1);
        lifetime(c, "max-age=5 5", -1);
        lifetime(c, "=5", -1);
        lifetime(c, "MAX-AGE=5", -1);
        lifetime(c, "xmax-age=5", -1);
        lifetime(c, "max-agex=5", -1);
        lifetime(c, "max-ag=5", -1);
        lifetime(c, "maxage=5", -1);
        lifetime(c, "", -1);
        lifetime(c, " ", -1);
        lifetime(c, ",", -1);
        lifetime(c, ",max-age=5", 5);
        lifetime(c, ",,,max-age=5", 5);
        lifetime(c, ", ,max-age=5, ", 5);
        lifetime(c, "max-age=5,,", 5);
        lifetime(c, "   max-age=5   ", 5);
        lifetime(c, "a , max-age=5 ,b", 5);
        lifetime(c, "max-age=5;max-age=6", -1);
        lifetime(c, "max-age=5,max-age=6", 5);
        lifetime(c, "max-age,max-age=6", 0);
        lifetime(c, "max-age=x,max-age=6", 6);
        lifetime(c, "max-age=5,s-maxage=3", 3);
        lifetime(c, "s-maxage=3,max-age=5", 3);
        lifetime(c, "s-maxage,max-age=5", 0);
        lifetime(c, "s-maxage=,max-age=5", 5);
        lifetime(c, "s-maxage=8,s-maxage=3", 8);
        lifetime(c, "s-max-age=3", -1);
        lifetime(c, "min-fresh=5", -1);
        lifetime(c, "public,max-age=5,no-cache", 5);
        lifetime(c, "max-age=5,no-store", -1);
        lifetime(c, "max-age=5,no-store=1", -1);
        lifetime(c, "no-store=x,max-age=5", 5);
        lifetime(c, "private,max-age=5", -1);
        lifetime(c, "private=00000,max-age=5", -1);
        lifetime(c, "Private,max-age=5", 5);
        lifetime(c, "privat,max-age=5", 5);
        lifetime(c, "\"private\",max-age=5", 5);
    }

    /** What the store tells of a resource with this control; -1 when it is not stored. */
    private static void lifetime(Check c, String control, int due) {
        FrontCache x = new FrontCache(12);
        Check.publish(x, control, 1, 1, false);
        Check.fetch(x, 1, 0);
        c.due("lifetime of '" + control + "'", x.entry(0, 3), due);
    }

    private static void requestControls(Check c) {
        hit(c, "", 1);
        hit(c, "no-cache", 0);
        hit(c, "no-cache=5", 0);
        hit(c, "no-cache=", 1);
        hit(c, "no-cach", 1);
        hit(c, "no-store", 1);
        hit(c, "private", 1);
        hit(c, "max-age=4", 1);
        hit(c, "max-age=3", 1);
        hit(c, "max-age=2", 0);
        hit(c, "max-age", 0);
        hit(c, "max-age=2,max-age=9", 0);
        hit(c, "s-maxage=0", 1);
        hit(c, "min-fresh", 1);
        hit(c, "min-fresh=2", 1);
        hit(c, "min-fresh=3", 0);
        hit(c, "min-fresh=99999", 0);
        hit(c, "max-age=3,min-fresh=2", 1);
        hit(c, "only-if-cached", 1);
        hit(c, "only-if-cached, max-age=2", 504);
        hit(c, "only-if-cached=7, min-fresh=3", 504);
        hit(c, "min-fresh=3, only-if-cached, no-cache", 504);
        hit(c, "only-if-cached=, no-cache", 0);
    }

    /** Asks for an entry of age 3 and lifetime 5: 1 for a hit, 0 when it is passed on, otherwise the status. */
    private static void hit(Check c, String control, int due) {
        FrontCache x = new FrontCache(12);
        Check.publish(x, "max-age=5", 1, 1, false);
        Check.fetch(x, 1, 0);
        Check.ticks(x, 3);
        int request = Check.get(x, control, 1, 2, 0);
        c.answer(x, request, due == 1 ? 200 : due, due == 1 ? 4 : 0, due == 1 ? 3 : 0, due == 1 ? 1 : 0);
        c.due("flights() behind '" + control + "'", x.flights(), due == 0 ? 1 : 0);
    }
}
