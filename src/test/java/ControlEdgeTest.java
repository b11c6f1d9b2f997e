/** The edges of promise 2, and those that "Terms" names for controls; each test bears its sentence. */
public final class ControlEdgeTest {
    private static final String BLANKS = "                                        ";

    public static void main(String[] args) {
        Check c = new Check("ControlEdgeTest");
        charactersOfTheDraft(c);
        lengthOfTheDraft(c);
        refusedCharactersLeaveTheDraft(c);
        theDraftIsEmptyThen(c);
        elementsStandBetweenCommasAndEnds(c);
        blanksAtBeginningAndEnd(c);
        names(c);
        digits(c);
        noNumberIsZero(c);
        whatIsNoDirectiveIsNothing(c);
        theFirstCounts(c);
        lifetimes(c);
        wordsThatMeanNothingThere(c);
        c.end();
    }

    /** The lifetime of a stored resource with this control; -1 when it was not stored. */
    private static int lifetime(String control) {
        FrontCache x = new FrontCache(12);
        Check.publish(x, control, 1, 1, false);
        Check.load(x, 1, 0);
        return x.entries() == 0 ? -1 : x.entry(0, 3);
    }

    private static void lifetime(Check c, String control, int due) {
        c.due("lifetime of '" + control + "'", lifetime(control), due);
    }

    /** What a GET with this control finds in an entry of this age and of lifetime 5: the way of its answer. */
    private static void way(Check c, int age, String control, int due) {
        FrontCache x = new FrontCache(12);
        Check.publish(x, "max-age=5", 1, 1, false);
        Check.load(x, 1, 0);
        Check.ticks(x, age);
        int request = Check.get(x, control, 1, 0, 0);
        c.due("way of '" + control + "' at age " + age, x.answer(request, 3), due);
        c.due("flights() of '" + control + "' at age " + age, x.flights(), 1 - due);
    }

    /** "false when c is not 32 .. 126" */
    private static void charactersOfTheDraft(Check c) {
        FrontCache x = new FrontCache(12);
        c.due("type((char) 31)", x.type((char) 31), false);
        c.due("type((char) 32)", x.type((char) 32), true);
        c.due("type((char) 126)", x.type((char) 126), true);
        c.due("type((char) 127)", x.type((char) 127), false);
        c.due("type((char) 0)", x.type((char) 0), false);
        c.due("type((char) 10)", x.type((char) 10), false);
        c.due("type((char) 32768)", x.type((char) 32768), false);
        c.due("type((char) 65535)", x.type((char) 65535), false);
        c.due("type of a letter a, 256 further", x.type((char) ('a' + 256)), false);
    }

    /** "false when .. 40 are there" */
    private static void lengthOfTheDraft(Check c) {
        FrontCache x = new FrontCache(12);
        Check.type(x, BLANKS.substring(0, 30) + "max-age=5");
        c.due("type the 40th", x.type('6'), true);
        c.due("type the 41st", x.type('7'), false);
        c.due("type the 41st again", x.type(' '), false);
        x.publish(1, 1, false);
        Check.load(x, 1, 0);
        c.due("lifetime of the 40", x.entry(0, 3), 56);
    }

    /** "A call that is refused changes nothing." */
    private static void refusedCharactersLeaveTheDraft(Check c) {
        FrontCache x = new FrontCache(12);
        x.type((char) 31);
        Check.type(x, "max-");
        x.type((char) 127);
        Check.type(x, "age=1");
        x.type((char) 200);
        Check.type(x, "2");
        x.type('\t');
        for (int i = 10; i < 40; i++) {
            c.due("type character " + (i + 1), x.type(' '), true);
        }
        c.due("type character 41", x.type(' '), false);
        x.publish(1, 1, false);
        Check.load(x, 1, 0);
        c.due("lifetime", x.entry(0, 3), 12);
    }

    /** "the draft is empty then": behind publish and get, and only behind these. */
    private static void theDraftIsEmptyThen(Check c) {
        FrontCache x = new FrontCache(12);
        Check.type(x, BLANKS);
        x.publish(1, 1, false);
        Check.type(x, BLANKS);
        c.due("type the 41st behind publish", x.type('a'), false);
        x.get(1, 0, 0);
        Check.type(x, BLANKS);
        c.due("type the 41st behind get", x.type('a'), false);
        x.put(1, 1);
        x.delete(1);
        x.withdraw(1);
        x.tick();
        x.deliver(0);
        c.due("type the 41st behind other calls", x.type('a'), false);
        FrontCache y = new FrontCache(12);
        Check.publish(y, "max-age=9", 1, 1, false);
        y.publish(3, 1, false);
        Check.load(y, 3, 0);
        c.due("entries() of an empty control", y.entries(), 0);
        Check.load(y, 1, 0);
        Check.get(y, "no-cache,only-if-cached", 1, 0, 0);
        c.answer(y, 3, 504, 0, 0, 0);
        y.get(1, 0, 0);
        c.answer(y, 4, 200, 4, 0, 1);
    }

    /** "Its ELEMENTS are what stands between its commas and its ends" */
    private static void elementsStandBetweenCommasAndEnds(Check c) {
        lifetime(c, "", -1);
        lifetime(c, ",", -1);
        lifetime(c, ",,", -1);
        lifetime(c, "max-age=5", 5);
        lifetime(c, ",max-age=5", 5);
        lifetime(c, "max-age=5,", 5);
        lifetime(c, ",,max-age=5,,", 5);
        lifetime(c, "a,max-age=5,b", 5);
        lifetime(c, "max-age,=5", 0);
        lifetime(c, "max-,age=5", -1);
        lifetime(c, "max-age=5,6", 5);
        lifetime(c, "max-age=5;", -1);
        lifetime(c, "max-age=5.", -1);
        lifetime(c, "max-age=5-", -1);
        lifetime(c, "+max-age=5", -1);
        lifetime(c, ",,,,,,,,,,,,,,,,,,,,,,,,,,,,,,,max-age=5", 5);
        lifetime(c, "max-age=5,,,,,,,,,,,,,,,,,,,,,,,,,,,,,,,", 5);
    }

    /** "without the blanks at their beginning and end" */
    private static void blanksAtBeginningAndEnd(Check c) {
        lifetime(c, " ", -1);
        lifetime(c, " , ", -1);
        lifetime(c, BLANKS, -1);
        lifetime(c, " max-age=5", 5);
        lifetime(c, "max-age=5 ", 5);
        lifetime(c, "  max-age=5  ", 5);
        lifetime(c, "a ,  max-age=5  , b", 5);
        lifetime(c, BLANKS.substring(0, 31) + "max-age=5", 5);
        lifetime(c, "max-age=5" + BLANKS.substring(0, 31), 5);
        lifetime(c, "max -age=5", -1);
        lifetime(c, "max-age =5", -1);
        lifetime(c, "max-age= 5", -1);
        lifetime(c, "max-age=5 6", -1);
        lifetime(c, "s-maxage=7 max-age=5", -1);
        lifetime(c, "max-age 5", -1);
    }

    /** "a NAME, of letters a .. z and hyphens (one at least)" */
    private static void names(Check c) {
        lifetime(c, "=5", -1);
        lifetime(c, "=", -1);
        lifetime(c, "5", -1);
        lifetime(c, "-", -1);
        lifetime(c, "-=5,max-age=6", 6);
        lifetime(c, "=5,max-age=6", 6);
        lifetime(c, "max-agE=5", -1);
        lifetime(c, "MAX-AGE=5", -1);
        lifetime(c, "max_age=5", -1);
        lifetime(c, "maxage=5", -1);
        lifetime(c, "max--age=5", -1);
        lifetime(c, "-max-age=5", -1);
        lifetime(c, "max-age-=5", -1);
        lifetime(c, "max-ag=5", -1);
        lifetime(c, "max-agee=5", -1);
        lifetime(c, "max-ag`=5", -1);
        lifetime(c, "max-age{=5", -1);
        lifetime(c, "max-age=5,No-Store", 5);
        lifetime(c, "max-age=5,no-stor", 5);
        lifetime(c, "max-age=5,no-stores", 5);
        lifetime(c, "max-age=5,no-store", -1);
        lifetime(c, "max-age=5,privat", 5);
        lifetime(c, "max-age=5,privates", 5);
        lifetime(c, "max-age=5,private", -1);
    }

    /** "or a name, =, and 1 to 5 digits" */
    private static void digits(Check c) {
        lifetime(c, "max-age=", -1);
        lifetime(c, "max-age=0", 0);
        lifetime(c, "max-age=9", 9);
        lifetime(c, "max-age=/", -1);
        lifetime(c, "max-age=:", -1);
        lifetime(c, "max-age=1/", -1);
        lifetime(c, "max-age=:1", -1);
        lifetime(c, "max-age=12345", 12345);
        lifetime(c, "max-age=99999", 99999);
        lifetime(c, "max-age=00001", 1);
        lifetime(c, "max-age=100000", -1);
        lifetime(c, "max-age=000001", -1);
        lifetime(c, "max-age=99999999999999999999", -1);
        lifetime(c, "max-age=-1", -1);
        lifetime(c, "max-age=+1", -1);
        lifetime(c, "max-age==1", -1);
        lifetime(c, "max-age=1=1", -1);
        lifetime(c, "max-age=1a", -1);
        lifetime(c, "s-maxage=", -1);
        lifetime(c, "s-maxage=99999", 99999);
        lifetime(c, "s-maxage=100000", -1);
        lifetime(c, "max-age=5,no-store=", 5);
        lifetime(c, "max-age=5,no-store=1", -1);
        lifetime(c, "max-age=5,no-store=12345", -1);
        lifetime(c, "max-age=5,no-store=123456", 5);
        lifetime(c, "max-age=5,private=", 5);
        lifetime(c, "max-age=5,private=0", -1);
        lifetime(c, "max-age=5,private=000000", 5);
    }

    /** "its NUMBER (0 where there is none)" */
    private static void noNumberIsZero(Check c) {
        lifetime(c, "max-age", 0);
        lifetime(c, "s-maxage", 0);
        lifetime(c, "s-maxage,max-age=5", 0);
        way(c, 0, "max-age", 1);
        way(c, 1, "max-age", 0);
        way(c, 4, "min-fresh", 1);
        way(c, 5, "min-fresh", 0);
    }

    /** "What is no directive is nothing" */
    private static void whatIsNoDirectiveIsNothing(Check c) {
        lifetime(c, "s-maxage=x,max-age=5", 5);
        lifetime(c, "max-age=x,max-age=5", 5);
        lifetime(c, "max-age=,max-age=5", 5);
        lifetime(c, "max-age=000001,max-age=5", 5);
        lifetime(c, "max-age 1,max-age=5", 5);
        way(c, 1, "max-age=000000", 1);
        way(c, 1, "no-cache=", 1);
        way(c, 1, "no-cache=000000", 1);
        way(c, 1, "min-fresh=123456", 1);
        way(c, 5, "only-if-cached=", 0);
    }

    /** "of directives with the same name the first counts" */
    private static void theFirstCounts(Check c) {
        lifetime(c, "max-age=5,max-age=6", 5);
        lifetime(c, "max-age=6,max-age=5", 6);
        lifetime(c, "max-age,max-age=6", 0);
        lifetime(c, "max-age=0,max-age=6", 0);
        lifetime(c, "max-age=6,max-age", 6);
        lifetime(c, "max-age=6,a,max-age=5,max-age=7", 6);
        lifetime(c, "s-maxage=5,max-age=9,s-maxage=6", 5);
        lifetime(c, "max-age=9,s-maxage=6,s-maxage=5", 6);
        way(c, 2, "max-age=1,max-age=2", 0);
        way(c, 2, "max-age=2,max-age=1", 1);
        way(c, 2, "min-fresh=4,min-fresh=3", 0);
        way(c, 2, "min-fresh=3,min-fresh=4", 1);
    }

    /** "the number of s-maxage, if that is there, otherwise that of max-age, .. otherwise there is none" */
    private static void lifetimes(Check c) {
        lifetime(c, "s-maxage=3,max-age=5", 3);
        lifetime(c, "max-age=5,s-maxage=3", 3);
        lifetime(c, "s-maxage=5,max-age=3", 5);
        lifetime(c, "s-maxage=0,max-age=5", 0);
        lifetime(c, "s-maxage=3", 3);
        lifetime(c, "max-age=5", 5);
        lifetime(c, "no-cache", -1);
        lifetime(c, "min-fresh=5", -1);
        lifetime(c, "only-if-cached=5", -1);
    }

    /** A request's s-maxage, no-store and private keep no hit away, nor does a resource's only-if-cached. */
    private static void wordsThatMeanNothingThere(Check c) {
        way(c, 4, "s-maxage=1", 1);
        way(c, 4, "no-store", 1);
        way(c, 4, "private", 1);
        way(c, 4, "public", 1);
        way(c, 4, "only-if-cached", 1);
        lifetime(c, "only-if-cached,max-age=5", 5);
        lifetime(c, "min-fresh=9,max-age=5", 5);
        FrontCache x = new FrontCache(12);
        Check.publish(x, "min-fresh=9,only-if-cached,max-age=5", 1, 1, false);
        Check.load(x, 1, 0);
        x.get(1, 0, 0);
        c.answer(x, 2, 200, 4, 0, 1);
        Check.get(x, "private,s-maxage=0,no-cache", 1, 0, 0);
        Check.publish(x, "max-age=5", 1, 1, false);
        Check.settle(x);
        c.answer(x, 3, 200, 8, 0, 2);
        c.entryTags(x, 8);
    }
}
