/** STATUS, as the document tells it. */
final class Status {
    static final int OK = 0;
    static final int PENDING = 0x103;
    static final int NO_MORE_FILES = 0x80000006;
    static final int INVALID_INFO_CLASS = 0xC0000003;
    static final int INFO_LENGTH = 0xC0000004;
    static final int INVALID_PARAMETER = 0xC000000D;
    static final int NO_SUCH_FILE = 0xC000000F;
    static final int END_OF_FILE = 0xC0000011;
    static final int ACCESS_DENIED = 0xC0000022;
    static final int NAME_INVALID = 0xC0000033;
    static final int NAME_NOT_FOUND = 0xC0000034;
    static final int NAME_COLLISION = 0xC0000035;
    static final int PATH_NOT_FOUND = 0xC000003A;
    static final int SHARING = 0xC0000043;
    static final int LOCK_CONFLICT = 0xC0000054;
    static final int LOCK_NOT_GRANTED = 0xC0000055;
    static final int DELETE_PENDING = 0xC0000056;
    static final int RANGE_NOT_LOCKED = 0xC000007E;
    static final int DISK_FULL = 0xC000007F;
    static final int RESOURCES = 0xC000009A;
    static final int IS_A_DIRECTORY = 0xC00000BA;
    static final int NOT_SUPPORTED = 0xC00000BB;
    static final int TREE_GONE = 0xC00000C9;
    static final int BAD_SHARE = 0xC00000CC;
    static final int OPLOCK_PROTOCOL = 0xC00000E3;
    static final int NOT_EMPTY = 0xC0000101;
    static final int NOT_A_DIRECTORY = 0xC0000103;
    static final int CANCELLED = 0xC0000120;
    static final int CANNOT_DELETE = 0xC0000121;
    static final int FILE_CLOSED = 0xC0000128;
    static final int SESSION_GONE = 0xC0000203;

    private Status() {
    }
}
