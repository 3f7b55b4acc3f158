/** Small models that tests begin with, and a picture of all that an object answers. */
final class Models {
    private Models() {
    }

    /** One state, whose actions lead back to it and earn these. */
    static PolicyWorks loops(int... rewards) {
        PolicyWorks x = new PolicyWorks();
        x.state();
        for (int a = 0; a < rewards.length; a++) {
            x.action(0);
            x.move(0, a, 0, 1);
            x.reward(0, a, rewards[a], 1);
        }
        return x;
    }

    /** Two states with two actions each, no two alike. */
    static PolicyWorks pair() {
        PolicyWorks x = bare(2, 2);
        x.reward(0, 0, 1, 2);
        x.move(0, 0, 0, 1);
        x.move(0, 0, 1, 2);
        x.reward(0, 1, -3, 1);
        x.move(0, 1, 1, 5);
        x.reward(1, 0, 4, 3);
        x.move(1, 0, 0, 1);
        x.reward(1, 1, 2, 1);
        x.move(1, 1, 0, 3);
        x.move(1, 1, 1, 4);
        return x;
    }

    /** State 0 earns 3 and goes to state 1, or earns 2 and stays; state 1 stays, and may earn this. */
    static PolicyWorks crossing(int reward) {
        PolicyWorks x = bare(2, 2);
        x.move(0, 0, 1, 1);
        x.move(0, 1, 0, 1);
        x.move(1, 0, 1, 1);
        x.move(1, 1, 1, 1);
        x.reward(0, 0, 3, 1);
        x.reward(0, 1, 2, 1);
        x.reward(1, 1, reward, 1);
        return x;
    }

    /** All states and all actions that there may be: action a of state s leads to the states s and s + a. */
    static PolicyWorks full() {
        PolicyWorks x = bare(6, 4);
        for (int s = 0; s < 6; s++) {
            for (int a = 0; a < 4; a++) {
                x.move(s, a, s, 1 + a);
                x.move(s, a, (s + a) % 6, 2 + s);
            }
            x.reward(s, (s + 1) % 4, s - 2, 1 + s);
        }
        return x;
    }

    /** States with actions, without rewards and weights. */
    static PolicyWorks bare(int states, int actions) {
        PolicyWorks x = new PolicyWorks();
        for (int s = 0; s < states; s++) {
            x.state();
        }
        for (int s = 0; s < states; s++) {
            for (int a = 0; a < actions; a++) {
                x.action(s);
            }
        }
        return x;
    }

    /** Answers that tell all settings and all that was solved; few enough to be asked twice of a full object. */
    static String picture(PolicyWorks x, int states, int actions) {
        StringBuilder all = new StringBuilder();
        for (int what = 0; what < 4; what++) {
            all.append(x.count(what)).append(' ');
        }
        all.append(x.best());
        for (int part = -1; part < 2; part++) {
            all.append(" bound ").append(x.bound(8, part));
            for (int s = 0; s < states; s++) {
                all.append(" value ").append(x.value(s, part));
                all.append(" worth ").append(x.worth(0, s, part)).append(' ').append(x.worth(3, s, part));
                all.append(" steps ").append(x.steps(8, s, part));
                for (int a = 0; a < actions; a++) {
                    all.append(" gain ").append(x.gain(s, a, part));
                }
            }
        }
        for (int s = 0; s < states; s++) {
            all.append(" policy ").append(x.policy(s)).append(" plan ").append(x.plan(8, s));
        }
        return all.toString();
    }
}
