/** Digests of 32 bytes that Python's hashlib.blake2s worked out. */
final class Known {
    static final String EMPTY =
            "69217a3079908094e11121d042354a7c1f55b6482ca1a51e1b250dfd1ed0eef9";
    static final String ABC =
            "508c5e8c327c14e2e1a72ba34eeb452f37458b209ed63a294d999b4c86675982";
    /** Of no byte, with the key 0 .. 31. */
    static final String EMPTY_WITH_KEY =
            "48a8997da407876b3d79c0d92325ad3b89cbb754d86ab71aee047ad345fd2c49";
    /** Of no byte, with a key of 32 bytes 0. */
    static final String EMPTY_WITH_KEY_OF_0S =
            "cc8ed046995def3f21db6abcfe34c3526960be9dd3270ed1ab7cfc7f29ad4bd6";
    static final String BYTE_0 =
            "e34d74dbaf4ff4c6abd871cc220451d2ea2648846c7757fbaac82fe51ad64bea";
    static final String BYTE_255 =
            "8a1ef126b4e286703744a80b2f414be700cc93023e7bfc8688b79b54931abd27";

    private Known() {
    }
}
