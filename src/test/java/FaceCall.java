/** The calls of the public face: the bounds of each number that they take, and the due answers. */
enum FaceCall {
    SOURCE {
        @Override
        long[][] bounds(Setting setting) {
            return pointBounds(setting);
        }

        @Override
        long answer(RoomEchoes room, long... n) {
            room.source((int) n[0], (int) n[1], (int) n[2]);
            return 0;
        }

        @Override
        long due(PlainRoom plain, long... n) {
            return 0;
        }
    },
    LISTENER {
        @Override
        long[][] bounds(Setting setting) {
            return pointBounds(setting);
        }

        @Override
        long answer(RoomEchoes room, long... n) {
            room.listener((int) n[0], (int) n[1], (int) n[2]);
            return 0;
        }

        @Override
        long due(PlainRoom plain, long... n) {
            return 0;
        }
    },
    KEEPS {
        @Override
        long[][] bounds(Setting setting) {
            return new long[][] {{0, 5}, {0, 1000}};
        }

        @Override
        long answer(RoomEchoes room, long... n) {
            return room.keeps((int) n[0], (int) n[1]);
        }

        @Override
        long due(PlainRoom plain, long... n) {
            return plain.kept((int) n[0]);
        }
    },
    IMAGE {
        @Override
        long[][] bounds(Setting setting) {
            return new long[][] {{-40, 40}, {-40, 40}, {-40, 40}, {0, 3}};
        }

        @Override
        long answer(RoomEchoes room, long... n) {
            return room.image((int) n[0], (int) n[1], (int) n[2], (int) n[3]);
        }

        @Override
        long due(PlainRoom plain, long... n) {
            return plain.image((int) n[0], (int) n[1], (int) n[2], (int) n[3]);
        }
    },
    ECHO {
        @Override
        long[][] bounds(Setting setting) {
            return new long[][] {{0, 499}, {0, 6}};
        }

        @Override
        long answer(RoomEchoes room, long... n) {
            return room.echo((int) n[0], (int) n[1]);
        }

        @Override
        long due(PlainRoom plain, long... n) {
            return plain.echo((int) n[0], (int) n[1]);
        }
    },
    PLACE {
        @Override
        long[][] bounds(Setting setting) {
            return new long[][] {{-40, 40}, {-40, 40}, {-40, 40}};
        }

        @Override
        long answer(RoomEchoes room, long... n) {
            return room.place((int) n[0], (int) n[1], (int) n[2]);
        }

        @Override
        long due(PlainRoom plain, long... n) {
            return plain.place((int) n[0], (int) n[1], (int) n[2]);
        }
    },
    UNTIL {
        @Override
        long[][] bounds(Setting setting) {
            return new long[][] {{0, Long.MAX_VALUE}};
        }

        @Override
        long answer(RoomEchoes room, long... n) {
            return room.until(n[0]);
        }

        @Override
        long due(PlainRoom plain, long... n) {
            return plain.until(n[0]);
        }
    },
    LOUD {
        @Override
        long[][] bounds(Setting setting) {
            return new long[][] {{0, 499}, {0, 499}};
        }

        @Override
        boolean takes(Setting setting, long... n) {
            return super.takes(setting, n) && n[0] <= n[1];
        }

        @Override
        long answer(RoomEchoes room, long... n) {
            return room.loud((int) n[0], (int) n[1]);
        }

        @Override
        long due(PlainRoom plain, long... n) {
            return plain.loud((int) n[0], (int) n[1]);
        }
    },
    EARLY {
        @Override
        long[][] bounds(Setting setting) {
            return new long[][] {{0, Long.MAX_VALUE}, {0, 1}};
        }

        @Override
        long answer(RoomEchoes room, long... n) {
            return room.early(n[0], (int) n[1]);
        }

        @Override
        long due(PlainRoom plain, long... n) {
            return plain.early(n[0], (int) n[1]);
        }
    },
    ENOUGH {
        @Override
        long[][] bounds(Setting setting) {
            return new long[][] {{0, 1000}};
        }

        @Override
        long answer(RoomEchoes room, long... n) {
            return room.enough((int) n[0]);
        }

        @Override
        long due(PlainRoom plain, long... n) {
            return plain.enough((int) n[0]);
        }
    },
    LOUDEST {
        @Override
        long[][] bounds(Setting setting) {
            return new long[][] {{RoomEchoes.NONE, 499}};
        }

        @Override
        long answer(RoomEchoes room, long... n) {
            return room.loudest((int) n[0]);
        }

        @Override
        long due(PlainRoom plain, long... n) {
            return plain.loudest((int) n[0]);
        }
    };

    /** The least and the greatest that the document allows, number by number. */
    abstract long[][] bounds(Setting setting);

    abstract long answer(RoomEchoes room, long... n);

    /** What is due from a call that the document allows. */
    abstract long due(PlainRoom plain, long... n);

    boolean takes(Setting setting, long... n) {
        long[][] bounds = bounds(setting);
        for (int i = 0; i < n.length; i++) {
            if (n[i] < bounds[i][0] || n[i] > bounds[i][1]) {
                return false;
            }
        }
        return true;
    }

    String told(long... n) {
        StringBuilder text = new StringBuilder(name().toLowerCase(java.util.Locale.ROOT)).append('(');
        for (int i = 0; i < n.length; i++) {
            text.append(i == 0 ? "" : ", ").append(n[i]);
        }
        return text.append(')').toString();
    }

    private static long[][] pointBounds(Setting setting) {
        return new long[][] {{0, setting.size()[0]}, {0, setting.size()[1]}, {0, setting.size()[2]}};
    }
}
