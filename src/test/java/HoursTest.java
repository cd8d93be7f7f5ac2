import java.util.Random;

/** Promises 18 to 22: perform, clear, halls, hours, hour. */
public final class HoursTest {
    private static final int MAX = Integer.MAX_VALUE;
    private static final int MIN = Integer.MIN_VALUE;

    public static void main(String[] args) {
        Check check = new Check();
        performs(check);
        halls(check);
        days(check);
        asTheyWereThen(check);
        commonSingers(check);
        fewestAheadOfEarly(check);
        lesserHoursFirst(check);
        chain(check);
        allWays(check);
        twelve(check);
        check.end();
    }

    private static void performs(Check check) {
        GleePrize x = new GleePrize();
        int[] noClub = {-1, 10, MAX, MIN};
        for (int club : noClub) {
            check.due("perform(" + club + ")", x.perform(club), -1);
        }
        check.due("refused ones do not count", x.clear(), 0);
        for (int i = 0; i < 12; i++) {
            check.due("performance " + i, x.perform(i % 10), i);
        }
        check.due("the 13th", x.perform(0), -1);
        check.due("clear()", x.clear(), 12);
        check.due("clear() again", x.clear(), 0);
        check.due("numbers begin anew", x.perform(9), 0);
        check.due("clear() of one", x.clear(), 1);
    }

    private static void halls(Check check) {
        GleePrize x = new GleePrize();
        check.due("halls(1)", x.halls(1), 2);
        check.due("halls(4)", x.halls(4), 1);
        int[] wrong = {0, 5, -1, MAX, MIN};
        for (int n : wrong) {
            check.due("halls(" + n + ")", x.halls(n), -1);
        }
        for (int i = 0; i < 10; i++) {
            x.perform(i);
        }
        check.due("ten in four halls", x.hours(0), 3);
        check.due("hour(3)", x.hour(3), 0);
        check.due("hour(4)", x.hour(4), 1);
        check.due("hour(9)", x.hour(9), 2);
        check.due("halls(3)", x.halls(3), 4);
        check.due("ten in three halls", x.hours(0), 4);
        check.due("halls(2)", x.halls(2), 3);
        check.due("ten in two halls", x.hours(0), 5);
        check.due("halls(1) again", x.halls(1), 2);
        check.due("ten in one hall", x.hours(0), 10);
        check.due("the last", x.hour(9), 9);
    }

    private static void days(Check check) {
        GleePrize x = new GleePrize();
        x.perform(0);
        int[] noDay = {-1, 1001, MAX, MIN};
        for (int day : noDay) {
            check.due("hours(" + day + ")", x.hours(day), -1);
            check.due("hour(0) after it", x.hour(0), -1);
        }
        check.due("hours(1000)", x.hours(1000), 1);
        check.due("hour(0)", x.hour(0), 0);
        int[] noHour = {-1, 1, 11, 12, MAX, MIN};
        for (int i : noHour) {
            check.due("hour(" + i + ")", x.hour(i), -1);
        }
    }

    private static void asTheyWereThen(Check check) {
        GleePrize x = new GleePrize();
        x.perform(4);
        x.perform(4);
        check.due("two of one club", x.hours(0), 2);
        x.perform(4);
        check.due("the third was not there", x.hour(2), -1);
        x.clear();
        check.due("they were there", x.hour(1), 1);
        x.perform(1);
        x.perform(2);
        check.due("still as they were", x.hour(1), 1);
        check.due("refused", x.hours(2000), -1);
        check.due("and still", x.hour(1), 1);
        x.halls(1);
        x.halls(2);
        check.due("found anew", x.hours(0), 1);
        check.due("as they are", x.hour(1), 0);
        x.clear();
        check.due("none", x.hours(0), 0);
        check.due("none has an hour", x.hour(0), -1);
    }

    private static void commonSingers(Check check) {
        GleePrize x = new GleePrize();
        x.member(29, 0, 10, 20);
        x.member(29, 1, 20, 30);
        x.perform(0);
        x.perform(1);
        check.due("ahead of the common day", x.hours(19), 1);
        check.due("the common day", x.hours(20), 2);
        check.due("hour(1)", x.hour(1), 1);
        check.due("behind the common day", x.hours(21), 1);
        check.due("hour(1) behind", x.hour(1), 0);
        x.clear();
        x.perform(7);
        x.perform(7);
        check.due("one club without singers", x.hours(20), 2);
    }

    /** Makes the clubs a and b clash by a person of their own. */
    private static void clash(GleePrize x, int person, int a, int b) {
        x.member(person, a, 0, 1000);
        x.member(person, b, 0, 1000);
    }

    // 0 and 1 could share an hour, but then 2 and 3 could not: 0-2 and 1-3 alone need but two hours.
    private static void fewestAheadOfEarly(Check check) {
        GleePrize x = new GleePrize();
        clash(x, 0, 0, 3);
        clash(x, 1, 1, 2);
        clash(x, 2, 2, 3);
        for (int club = 0; club < 4; club++) {
            x.perform(club);
        }
        check.due("two hours", x.hours(0), 2);
        int[] due = {0, 1, 0, 1};
        for (int i = 0; i < 4; i++) {
            check.due("hour(" + i + ")", x.hour(i), due[i]);
        }
    }

    // 0, 1 and 2 clash, so 3, 4 and 5 each go to one of them, but 3 not to 0, 4 not to 1, 5 not to 2.
    // With 4 in hour 0 that hour would be filled earlier; but 3, the first that differs, would be later.
    private static void lesserHoursFirst(Check check) {
        GleePrize x = new GleePrize();
        clash(x, 0, 0, 1);
        x.member(0, 2, 0, 1000);
        clash(x, 1, 3, 0);
        clash(x, 2, 4, 1);
        clash(x, 3, 5, 2);
        for (int club = 0; club < 6; club++) {
            x.perform(club);
        }
        check.due("three hours", x.hours(0), 3);
        int[] due = {0, 1, 2, 1, 2, 0};
        for (int i = 0; i < due.length; i++) {
            check.due("hour(" + i + ")", x.hour(i), due[i]);
        }
    }

    // Each clashes with the next one of a chain only: two hours do, however long it is.
    private static void chain(Check check) {
        int[][] chains = {{1, 0, 3, 2}, {0, 1, 2, 3, 4, 5}, {5, 3, 1, 0, 2, 4}, {0, 5, 1, 4, 2, 3, 9, 8, 7, 6}};
        for (int[] chain : chains) {
            GleePrize x = new GleePrize();
            x.halls(chain.length > 8 ? 4 : 3);
            for (int i = 1; i < chain.length; i++) {
                clash(x, i, chain[i - 1], chain[i]);
            }
            for (int club = 0; club < chain.length; club++) {
                x.perform(club);
            }
            check.due("a chain of " + chain.length, x.hours(0), chain.length > 8 ? 3 : 2);
            for (int i = 1; i < chain.length; i++) {
                check.due("neighbours " + i + " stand apart", x.hour(chain[i - 1]) != x.hour(chain[i]), true);
            }
        }
    }

    /** Every way to put up to six performances into hours, told in the document's order. */
    private static void allWays(Check check) {
        Random random = new Random(3);
        for (int run = 0; run < 300; run++) {
            GleePrize x = new GleePrize();
            int halls = 1 + random.nextInt(4);
            x.halls(halls);
            for (int i = random.nextInt(10); i > 0; i--) {
                clash(x, random.nextBoolean() ? i : 0, random.nextInt(7), random.nextInt(7));
            }
            int[] clubs = new int[1 + random.nextInt(6)];
            for (int i = 0; i < clubs.length; i++) {
                clubs[i] = random.nextInt(7);
                x.perform(clubs[i]);
            }
            int[] best = bestWay(x, clubs, halls);
            check.due("run " + run + " hours", x.hours(5), used(best));
            for (int i = 0; i < clubs.length; i++) {
                check.due("run " + run + " hour " + i, x.hour(i), best[i]);
            }
        }
    }

    /** Twelve performances with clashes between pairs of clubs, which need not all clash with one another. */
    private static void twelve(Check check) {
        Random random = new Random(4);
        for (int run = 0; run < 200; run++) {
            GleePrize x = new GleePrize();
            PlainDesk plain = new PlainDesk();
            int halls = 2 + random.nextInt(3);
            x.halls(halls);
            plain.halls(halls);
            for (int person = random.nextInt(30); person >= 0; person--) {
                for (int pair = 0; pair < 2; pair++) {
                    int club = random.nextInt(10);
                    x.member(person, club, 0, 1000);
                    plain.member(person, club, 0, 1000);
                }
            }
            for (int i = 0; i < 12; i++) {
                int club = random.nextInt(4) == 0 ? random.nextInt(10) : i % 10;
                x.perform(club);
                plain.perform(club);
            }
            check.due("twelve, run " + run + " hours", x.hours(9), plain.hours(9));
            for (int i = 0; i < 12; i++) {
                check.due("twelve, run " + run + " hour " + i, x.hour(i), plain.hour(i));
            }
        }
    }

    private static int[] bestWay(GleePrize x, int[] clubs, int halls) {
        int n = clubs.length;
        boolean[][] clash = new boolean[n][n];
        for (int i = 0; i < n; i++) {
            for (int other = 0; other < n; other++) {
                clash[i][other] = clubs[i] == clubs[other]
                        || (x.singers(clubs[i], 5) & x.singers(clubs[other], 5)) != 0;
            }
        }
        int[] best = null;
        int[] way = new int[n];
        int ways = (int) Math.round(Math.pow(n, n));
        for (int number = 0; number < ways; number++) {
            int rest = number;
            for (int i = n - 1; i >= 0; i--) {
                way[i] = rest % n;
                rest /= n;
            }
            if ((best == null || used(way) < used(best)) && stands(way, clash, halls)) {
                best = way.clone();
            }
        }
        return best;
    }

    private static int used(int[] way) {
        int bits = 0;
        for (int hour : way) {
            bits |= 1 << hour;
        }
        return Integer.bitCount(bits);
    }

    private static boolean stands(int[] way, boolean[][] clash, int halls) {
        int[] inHour = new int[way.length];
        for (int i = 0; i < way.length; i++) {
            inHour[way[i]]++;
            if (inHour[way[i]] > halls) {
                return false;
            }
            for (int other = 0; other < i; other++) {
                if (way[other] == way[i] && clash[i][other]) {
                    return false;
                }
            }
        }
        return true;
    }
}
