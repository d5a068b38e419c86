/** Ways to mix a laid deck (see Scene.mix), each with the ranks that are in front then; FindShuffle tells them. */
final class Cards {
    static final String SEAT_NATURAL = "i 40 i o 18 o i 22 i 45 i 33"; // 1 9 10 5 7 9
    static final String BOTH_NATURAL = "i i i i 2 i i i i o 22"; // 1 1 10 10
    static final String TEN_AND_ACE = "10 i i i 48 i i 21"; // 10 10 10 1
    static final String ACE_AND_TEN = "i i 32 i 17"; // 10 1 10 10
    static final String HIT_TO_21 = "i i o o 3 i i i i 43 o i 51"; // 5 10 6 7 10 1
    static final String BUSTS = "32 o 41 o i 46 34 o 8"; // 10 6 8 10 10 9
    static final String SOFT_SIX = "i i 22 i i i i o i i 50"; // 10 6 7 1 9 2 10
    static final String SOFT_ACE = "o 14 i 21 38 i i i i 43"; // 10 1 8 6 3 10
    static final String EVEN_19 = "i o 12 3 o o o i i 9"; // 10 9 9 10
    static final String EIGHTS = "30 o o o 30 i 42 o i i i 30"; // 8 6 8 10 3 9 10 9 10
    static final String ACES = "i i i o 2 i o i i i 16"; // 1 9 1 8 10 10
    static final String ACES_AND_FIVE = "o i i o i o 9 24 19 i i i 1"; // 1 9 1 8 10 5 10 5
    static final String ACES_AGAINST_21 = "i i 12 i i 9 i i i o 2"; // 1 6 1 5 10 10 10
    static final String DOUBLE_21 = "i 19 i o i o o o 47 o 17"; // 5 6 6 10 10 10
    static final String DOUBLE_18 = "i i i o i i i i o o 39"; // 9 8 2 9 7
    static final String SIXTEEN = "9 o i i i o i 34 i i i 39"; // 10 6 5 10 6 5
    static final String NATURAL_AND_19_AGAINST_21 = "i 37 i i i i i i 5 i i o 25"; // two seats: 1 10 6 10 9 5 10
    static final String SOFT_18 = "i i i i i i 8 41 47 o i o 29"; // 10 1 9 7
    static final String HARD_17 = "i o i 51 i o i 31 3"; // 10 7 10 10

    private Cards() {
    }
}
