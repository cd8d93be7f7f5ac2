/** Promises 15 to 17: member, may, singers. */
public final class MemberTest {
    private static final int MAX = Integer.MAX_VALUE;
    private static final int MIN = Integer.MIN_VALUE;

    public static void main(String[] args) {
        Check check = new Check();
        members(check);
        wrongQuestions(check);
        spans(check);
        singers(check);
        sixty(check);
        check.end();
    }

    private static void members(Check check) {
        GleePrize x = new GleePrize();
        int[][] wrong = {{-1, 0, 0, 0}, {30, 0, 0, 0}, {MAX, 0, 0, 0}, {MIN, 0, 0, 0}, {0, -1, 0, 0}, {0, 10, 0, 0},
            {0, MAX, 0, 0}, {0, MIN, 0, 0}, {0, 0, -1, 0}, {0, 0, MIN, 0}, {0, 0, 1001, 1001}, {0, 0, 0, 1001},
            {0, 0, 0, MAX}, {0, 0, 1, 0}, {0, 0, 1000, 999}, {0, 0, -2, -1}, {0, 0, MIN, MAX}};
        for (int[] w : wrong) {
            check.due("member of " + w[0] + " " + w[1] + " " + w[2] + " " + w[3],
                    x.member(w[0], w[1], w[2], w[3]), -1);
        }
        check.due("member(0, 0, 0, 0)", x.member(0, 0, 0, 0), 1);
        check.due("member(29, 9, 1000, 1000)", x.member(29, 9, 1000, 1000), 2);
        check.due("member(29, 9, 0, 1000)", x.member(29, 9, 0, 1000), 3);
        check.due("the same span again", x.member(29, 9, 0, 1000), 4);
    }

    private static void wrongQuestions(Check check) {
        GleePrize x = new GleePrize();
        x.member(0, 0, 0, 1000);
        int[] noPerson = {-1, 30, 32, MAX, MIN};
        int[] noClub = {-1, 10, MAX, MIN};
        int[] noDay = {-1, 1001, MAX, MIN};
        for (int person : noPerson) {
            check.due("may(" + person + ", 0, 0)", x.may(person, 0, 0), -1);
        }
        for (int club : noClub) {
            check.due("may(0, " + club + ", 0)", x.may(0, club, 0), -1);
            check.due("singers(" + club + ", 0)", x.singers(club, 0), -1);
        }
        for (int day : noDay) {
            check.due("may(0, 0, " + day + ")", x.may(0, 0, day), -1);
            check.due("singers(0, " + day + ")", x.singers(0, day), -1);
        }
    }

    private static void spans(Check check) {
        GleePrize x = new GleePrize();
        x.member(7, 3, 100, 200);
        x.member(7, 3, 202, 202);
        x.member(7, 3, 150, 160);
        x.member(7, 4, 150, 1000);
        int[] days = {0, 99, 100, 150, 200, 201, 202, 203, 1000};
        int[] of3 = {0, 0, 1, 1, 1, 0, 1, 0, 0};
        int[] of4 = {0, 0, 0, 1, 1, 1, 1, 1, 1};
        for (int i = 0; i < days.length; i++) {
            check.due("may(7, 3, " + days[i] + ")", x.may(7, 3, days[i]), of3[i]);
            check.due("may(7, 4, " + days[i] + ")", x.may(7, 4, days[i]), of4[i]);
            check.due("may(8, 3, " + days[i] + ")", x.may(8, 3, days[i]), 0);
            check.due("may(7, 5, " + days[i] + ")", x.may(7, 5, days[i]), 0);
        }
    }

    private static void singers(Check check) {
        GleePrize x = new GleePrize();
        x.member(0, 1, 0, 10);
        x.member(29, 1, 5, 20);
        x.member(3, 1, 10, 10);
        x.member(3, 1, 9, 11);
        x.member(4, 2, 0, 1000);
        check.due("singers(1, 0)", x.singers(1, 0), 1);
        check.due("singers(1, 5)", x.singers(1, 5), 1 | 1 << 29);
        check.due("singers(1, 10)", x.singers(1, 10), 1 | 1 << 29 | 1 << 3);
        check.due("singers(1, 11)", x.singers(1, 11), 1 << 29 | 1 << 3);
        check.due("singers(1, 20)", x.singers(1, 20), 1 << 29);
        check.due("singers(1, 21)", x.singers(1, 21), 0);
        check.due("singers(2, 1000)", x.singers(2, 1000), 16);
        check.due("singers(9, 0)", x.singers(9, 0), 0);
        for (int person = 0; person < 30; person++) {
            x.member(person, 9, 0, 1000);
        }
        check.due("all persons", x.singers(9, 500), (1 << 30) - 1);
    }

    private static void sixty(Check check) {
        GleePrize x = new GleePrize();
        for (int i = 0; i < 60; i++) {
            check.due("span " + i, x.member(i % 30, i % 10, i, i), i + 1);
        }
        check.due("the 61st span", x.member(5, 5, 70, 70), -1);
        check.due("it does not hold", x.may(5, 5, 70), 0);
        check.due("the 60th does", x.may(29, 9, 59), 1);
    }
}
