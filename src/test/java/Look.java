/** All that can be seen of an object without changing it. */
final class Look {
    private Look() {
    }

    static String at(SettingSearch x, long... feeds) {
        StringBuilder seen = new StringBuilder();
        seen.append("sum ").append(x.sum()).append(", bound ").append(x.bound());
        seen.append(", proved ").append(x.proved()).append(", changes ").append(x.changes());
        for (int machine = 0; machine < 5; machine++) {
            seen.append(", machine ").append(machine).append(": ").append(x.asked(machine));
            seen.append(' ').append(x.best(machine)).append(' ').append(x.room(machine));
        }
        for (long feed : feeds) {
            seen.append(", kept(").append(feed).append(") ").append(x.kept(feed));
        }
        seen.append(", clash");
        for (int k = 0; k < 9; k++) {
            seen.append(' ').append(x.clash(k));
        }
        return seen.toString();
    }
}
