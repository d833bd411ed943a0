/** Looks at every order of jobs, the first by numbers first. */
final class AllOrders {
    private AllOrders() {
    }

    static int[] best(int[] time, int[] due) {
        int n = time.length;
        int[] now = new int[n];
        for (int i = 0; i < n; i++) {
            now[i] = i;
        }
        int[] best = now.clone();
        while (next(now)) {
            if (lateness(time, due, now) < lateness(time, due, best)) {
                best = now.clone();
            }
        }
        return best;
    }

    static int lateness(int[] time, int[] due, int[] order) {
        int end = 0;
        int sum = 0;
        for (int job : order) {
            end += time[job];
            sum += end > due[job] ? end - due[job] : 0;
        }
        return sum;
    }

    private static boolean next(int[] now) {
        int i = now.length - 2;
        while (i >= 0 && now[i] > now[i + 1]) {
            i--;
        }
        if (i < 0) {
            return false;
        }
        int j = now.length - 1;
        while (now[j] < now[i]) {
            j--;
        }
        swap(now, i, j);
        for (int low = i + 1, high = now.length - 1; low < high; low++, high--) {
            swap(now, low, high);
        }
        return true;
    }

    private static void swap(int[] of, int i, int j) {
        int kept = of[i];
        of[i] = of[j];
        of[j] = kept;
    }
}
