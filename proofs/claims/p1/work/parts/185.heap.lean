/-! printed by wip/tools/p1gen.py: the cells behind the two constructors, and every first call -/
def zv_hx : HP := [.inr (.inr (7, [.ref 1, .ref 30, .ref 25, .ref 28, .ref 54, .ref 55, .ref 104, .int 0])),
  .inr (.inr (2, [.int 4, .int 0, .int 0, .int 0, .ref 2, .ref 3, .ref 4])),
  .inr (.inl (5, [some 5, some 6, some 7, some 8])),
  .inr (.inl (3, [some 9, some 10, some 11, some 12, some 13, some 14, some 15, some 16])),
  .inr (.inl (7, [some 17, some 18, some 19, some 20, some 21, some 22, some 23, some 24])),
  .inr (.inr (3, [.int 0, .int 0])),
  .inr (.inr (3, [.int 0, .int 0])),
  .inr (.inr (3, [.int 0, .int 0])),
  .inr (.inr (3, [.int 0, .int 0])),
  .inr (.inr (1, [.int 0, .int 0, .int 0, .int 0, .int 0, .int 0, .int 10])),
  .inr (.inr (1, [.int 0, .int 0, .int 0, .int 0, .int 0, .int 0, .int 10])),
  .inr (.inr (1, [.int 0, .int 0, .int 0, .int 0, .int 0, .int 0, .int 10])),
  .inr (.inr (1, [.int 0, .int 0, .int 0, .int 0, .int 0, .int 0, .int 10])),
  .inr (.inr (1, [.int 0, .int 0, .int 0, .int 0, .int 0, .int 0, .int 10])),
  .inr (.inr (1, [.int 0, .int 0, .int 0, .int 0, .int 0, .int 0, .int 10])),
  .inr (.inr (1, [.int 0, .int 0, .int 0, .int 0, .int 0, .int 0, .int 10])),
  .inr (.inr (1, [.int 0, .int 0, .int 0, .int 0, .int 0, .int 0, .int 10])),
  .inr (.inr (6, [.int 0, .int 0, .int 0, .int 0])),
  .inr (.inr (6, [.int 0, .int 0, .int 0, .int 0])),
  .inr (.inr (6, [.int 0, .int 0, .int 0, .int 0])),
  .inr (.inr (6, [.int 0, .int 0, .int 0, .int 0])),
  .inr (.inr (6, [.int 0, .int 0, .int 0, .int 0])),
  .inr (.inr (6, [.int 0, .int 0, .int 0, .int 0])),
  .inr (.inr (6, [.int 0, .int 0, .int 0, .int 0])),
  .inr (.inr (6, [.int 0, .int 0, .int 0, .int 0])),
  .inr (.inr (0, [.int 0, .int 0, .int 0, .int 0, .ref 26, .ref 27])),
  .inl (0, [0, 0, 0, 0, 0, 0, 0, 0]),
  .inl (0, [0, 0, 0, 0, 0, 0, 0, 0, 0, 0, 0, 0, 0, 0, 0, 0, 0, 0, 0, 0, 0, 0, 0, 0, 0, 0, 0, 0, 0, 0, 0, 0, 0, 0, 0, 0, 0, 0, 0, 0, 0, 0, 0, 0, 0, 0, 0, 0]),
  .inr (.inr (4, [.ref 29, .int 0, .int 0, .int 0, .ref 30, .int 0, .int 0, .int 0, .int 0, .int 0, .int 0, .int 0])),
  .inl (1, [0, 0, 0, 0, 0, 0, 0, 0, 0, 0, 0, 0, 0, 0, 0, 0, 0, 0, 0, 0, 0, 0, 0, 0, 0, 0, 0, 0, 0, 0, 0, 0, 0, 0, 0, 0, 0, 0, 0, 0, 0, 0, 0, 0, 0, 0, 0, 0, 0, 0, 0, 0, 0, 0, 0, 0, 0, 0, 0, 0, 0, 0, 0, 0, 0, 0, 0, 0, 0, 0, 0, 0, 0, 0, 0, 0, 0, 0, 0, 0, 0, 0, 0, 0, 0, 0, 0, 0, 0, 0, 0, 0, 0, 0, 0, 0, 0, 0, 0, 0, 0, 0, 0, 0, 0, 0, 0, 0, 0, 0, 0, 0, 0, 0, 0, 0, 0, 0, 0, 0, 0, 0, 0, 0, 0, 0, 0, 0, 0, 0, 0, 0, 0, 0, 0, 0, 0, 0, 0, 0, 0, 0, 0, 0, 0, 0, 0, 0, 0, 0, 0, 0, 0, 0, 0, 0, 0, 0, 0, 0]),
  .inr (.inr (2, [.int 4, .int 0, .int 0, .int 0, .ref 31, .ref 32, .ref 33])),
  .inr (.inl (5, [some 34, some 35, some 36, some 37])),
  .inr (.inl (3, [some 38, some 39, some 40, some 41, some 42, some 43, some 44, some 45])),
  .inr (.inl (7, [some 46, some 47, some 48, some 49, some 50, some 51, some 52, some 53])),
  .inr (.inr (3, [.int 0, .int 0])),
  .inr (.inr (3, [.int 0, .int 0])),
  .inr (.inr (3, [.int 0, .int 0])),
  .inr (.inr (3, [.int 0, .int 0])),
  .inr (.inr (1, [.int 0, .int 0, .int 0, .int 0, .int 0, .int 0, .int 10])),
  .inr (.inr (1, [.int 0, .int 0, .int 0, .int 0, .int 0, .int 0, .int 10])),
  .inr (.inr (1, [.int 0, .int 0, .int 0, .int 0, .int 0, .int 0, .int 10])),
  .inr (.inr (1, [.int 0, .int 0, .int 0, .int 0, .int 0, .int 0, .int 10])),
  .inr (.inr (1, [.int 0, .int 0, .int 0, .int 0, .int 0, .int 0, .int 10])),
  .inr (.inr (1, [.int 0, .int 0, .int 0, .int 0, .int 0, .int 0, .int 10])),
  .inr (.inr (1, [.int 0, .int 0, .int 0, .int 0, .int 0, .int 0, .int 10])),
  .inr (.inr (1, [.int 0, .int 0, .int 0, .int 0, .int 0, .int 0, .int 10])),
  .inr (.inr (6, [.int 0, .int 0, .int 0, .int 0])),
  .inr (.inr (6, [.int 0, .int 0, .int 0, .int 0])),
  .inr (.inr (6, [.int 0, .int 0, .int 0, .int 0])),
  .inr (.inr (6, [.int 0, .int 0, .int 0, .int 0])),
  .inr (.inr (6, [.int 0, .int 0, .int 0, .int 0])),
  .inr (.inr (6, [.int 0, .int 0, .int 0, .int 0])),
  .inr (.inr (6, [.int 0, .int 0, .int 0, .int 0])),
  .inr (.inr (6, [.int 0, .int 0, .int 0, .int 0])),
  .inr (.inl (4, [some 56, some 80])),
  .inl (2, [0, 0]),
  .inr (.inr (2, [.int 4, .int 0, .int 0, .int 0, .ref 57, .ref 58, .ref 59])),
  .inr (.inl (5, [some 60, some 61, some 62, some 63])),
  .inr (.inl (3, [some 64, some 65, some 66, some 67, some 68, some 69, some 70, some 71])),
  .inr (.inl (7, [some 72, some 73, some 74, some 75, some 76, some 77, some 78, some 79])),
  .inr (.inr (3, [.int 0, .int 0])),
  .inr (.inr (3, [.int 0, .int 0])),
  .inr (.inr (3, [.int 0, .int 0])),
  .inr (.inr (3, [.int 0, .int 0])),
  .inr (.inr (1, [.int 0, .int 0, .int 0, .int 0, .int 0, .int 0, .int 10])),
  .inr (.inr (1, [.int 0, .int 0, .int 0, .int 0, .int 0, .int 0, .int 10])),
  .inr (.inr (1, [.int 0, .int 0, .int 0, .int 0, .int 0, .int 0, .int 10])),
  .inr (.inr (1, [.int 0, .int 0, .int 0, .int 0, .int 0, .int 0, .int 10])),
  .inr (.inr (1, [.int 0, .int 0, .int 0, .int 0, .int 0, .int 0, .int 10])),
  .inr (.inr (1, [.int 0, .int 0, .int 0, .int 0, .int 0, .int 0, .int 10])),
  .inr (.inr (1, [.int 0, .int 0, .int 0, .int 0, .int 0, .int 0, .int 10])),
  .inr (.inr (1, [.int 0, .int 0, .int 0, .int 0, .int 0, .int 0, .int 10])),
  .inr (.inr (6, [.int 0, .int 0, .int 0, .int 0])),
  .inr (.inr (6, [.int 0, .int 0, .int 0, .int 0])),
  .inr (.inr (6, [.int 0, .int 0, .int 0, .int 0])),
  .inr (.inr (6, [.int 0, .int 0, .int 0, .int 0])),
  .inr (.inr (6, [.int 0, .int 0, .int 0, .int 0])),
  .inr (.inr (6, [.int 0, .int 0, .int 0, .int 0])),
  .inr (.inr (6, [.int 0, .int 0, .int 0, .int 0])),
  .inr (.inr (6, [.int 0, .int 0, .int 0, .int 0])),
  .inr (.inr (2, [.int 4, .int 0, .int 0, .int 0, .ref 81, .ref 82, .ref 83])),
  .inr (.inl (5, [some 84, some 85, some 86, some 87])),
  .inr (.inl (3, [some 88, some 89, some 90, some 91, some 92, some 93, some 94, some 95])),
  .inr (.inl (7, [some 96, some 97, some 98, some 99, some 100, some 101, some 102, some 103])),
  .inr (.inr (3, [.int 0, .int 0])),
  .inr (.inr (3, [.int 0, .int 0])),
  .inr (.inr (3, [.int 0, .int 0])),
  .inr (.inr (3, [.int 0, .int 0])),
  .inr (.inr (1, [.int 0, .int 0, .int 0, .int 0, .int 0, .int 0, .int 10])),
  .inr (.inr (1, [.int 0, .int 0, .int 0, .int 0, .int 0, .int 0, .int 10])),
  .inr (.inr (1, [.int 0, .int 0, .int 0, .int 0, .int 0, .int 0, .int 10])),
  .inr (.inr (1, [.int 0, .int 0, .int 0, .int 0, .int 0, .int 0, .int 10])),
  .inr (.inr (1, [.int 0, .int 0, .int 0, .int 0, .int 0, .int 0, .int 10])),
  .inr (.inr (1, [.int 0, .int 0, .int 0, .int 0, .int 0, .int 0, .int 10])),
  .inr (.inr (1, [.int 0, .int 0, .int 0, .int 0, .int 0, .int 0, .int 10])),
  .inr (.inr (1, [.int 0, .int 0, .int 0, .int 0, .int 0, .int 0, .int 10])),
  .inr (.inr (6, [.int 0, .int 0, .int 0, .int 0])),
  .inr (.inr (6, [.int 0, .int 0, .int 0, .int 0])),
  .inr (.inr (6, [.int 0, .int 0, .int 0, .int 0])),
  .inr (.inr (6, [.int 0, .int 0, .int 0, .int 0])),
  .inr (.inr (6, [.int 0, .int 0, .int 0, .int 0])),
  .inr (.inr (6, [.int 0, .int 0, .int 0, .int 0])),
  .inr (.inr (6, [.int 0, .int 0, .int 0, .int 0])),
  .inr (.inr (6, [.int 0, .int 0, .int 0, .int 0])),
  .inr (.inl (6, [some 105, some 107, some 109, some 111])),
  .inr (.inr (5, [.int (-1), .ref 106, .int 0])),
  .inl (0, [0, 0, 0, 0, 0, 0, 0, 0, 0, 0, 0, 0, 0, 0, 0, 0, 0, 0, 0, 0, 0, 0, 0, 0, 0, 0, 0, 0, 0, 0, 0, 0, 0, 0, 0, 0, 0, 0, 0, 0]),
  .inr (.inr (5, [.int (-1), .ref 108, .int 0])),
  .inl (0, [0, 0, 0, 0, 0, 0, 0, 0, 0, 0, 0, 0, 0, 0, 0, 0, 0, 0, 0, 0, 0, 0, 0, 0, 0, 0, 0, 0, 0, 0, 0, 0, 0, 0, 0, 0, 0, 0, 0, 0]),
  .inr (.inr (5, [.int (-1), .ref 110, .int 0])),
  .inl (0, [0, 0, 0, 0, 0, 0, 0, 0, 0, 0, 0, 0, 0, 0, 0, 0, 0, 0, 0, 0, 0, 0, 0, 0, 0, 0, 0, 0, 0, 0, 0, 0, 0, 0, 0, 0, 0, 0, 0, 0]),
  .inr (.inr (5, [.int (-1), .ref 112, .int 0])),
  .inl (0, [0, 0, 0, 0, 0, 0, 0, 0, 0, 0, 0, 0, 0, 0, 0, 0, 0, 0, 0, 0, 0, 0, 0, 0, 0, 0, 0, 0, 0, 0, 0, 0, 0, 0, 0, 0, 0, 0, 0, 0])]

def zv_h0 : HP := [.inr (.inr (7, [.ref 1, .ref 30, .ref 25, .ref 28, .ref 54, .ref 55, .ref 104, .int 0])),
  .inr (.inr (2, [.int 4, .int 0, .int 0, .int 0, .ref 2, .ref 3, .ref 4])),
  .inr (.inl (5, [some 5, some 6, some 7, some 8])),
  .inr (.inl (3, [some 9, some 10, some 11, some 12, some 13, some 14, some 15, some 16])),
  .inr (.inl (7, [some 17, some 18, some 19, some 20, some 21, some 22, some 23, some 24])),
  .inr (.inr (3, [.int 0, .int 0])),
  .inr (.inr (3, [.int 0, .int 0])),
  .inr (.inr (3, [.int 0, .int 0])),
  .inr (.inr (3, [.int 0, .int 0])),
  .inr (.inr (1, [.int 0, .int 0, .int 0, .int 0, .int 0, .int 0, .int 10])),
  .inr (.inr (1, [.int 0, .int 0, .int 0, .int 0, .int 0, .int 0, .int 10])),
  .inr (.inr (1, [.int 0, .int 0, .int 0, .int 0, .int 0, .int 0, .int 10])),
  .inr (.inr (1, [.int 0, .int 0, .int 0, .int 0, .int 0, .int 0, .int 10])),
  .inr (.inr (1, [.int 0, .int 0, .int 0, .int 0, .int 0, .int 0, .int 10])),
  .inr (.inr (1, [.int 0, .int 0, .int 0, .int 0, .int 0, .int 0, .int 10])),
  .inr (.inr (1, [.int 0, .int 0, .int 0, .int 0, .int 0, .int 0, .int 10])),
  .inr (.inr (1, [.int 0, .int 0, .int 0, .int 0, .int 0, .int 0, .int 10])),
  .inr (.inr (6, [.int 0, .int 0, .int 0, .int 0])),
  .inr (.inr (6, [.int 0, .int 0, .int 0, .int 0])),
  .inr (.inr (6, [.int 0, .int 0, .int 0, .int 0])),
  .inr (.inr (6, [.int 0, .int 0, .int 0, .int 0])),
  .inr (.inr (6, [.int 0, .int 0, .int 0, .int 0])),
  .inr (.inr (6, [.int 0, .int 0, .int 0, .int 0])),
  .inr (.inr (6, [.int 0, .int 0, .int 0, .int 0])),
  .inr (.inr (6, [.int 0, .int 0, .int 0, .int 0])),
  .inr (.inr (0, [.int 0, .int 0, .int 0, .int 0, .ref 26, .ref 27])),
  .inl (0, [0, 0, 0, 0, 0, 0, 0, 0]),
  .inl (0, [0, 0, 0, 0, 0, 0, 0, 0, 0, 0, 0, 0, 0, 0, 0, 0, 0, 0, 0, 0, 0, 0, 0, 0, 0, 0, 0, 0, 0, 0, 0, 0, 0, 0, 0, 0, 0, 0, 0, 0, 0, 0, 0, 0, 0, 0, 0, 0]),
  .inr (.inr (4, [.ref 29, .int 0, .int 0, .int 0, .ref 30, .int 0, .int 0, .int 0, .int 0, .int 0, .int 0, .int 0])),
  .inl (1, [0, 0, 0, 0, 0, 0, 0, 0, 0, 0, 0, 0, 0, 0, 0, 0, 0, 0, 0, 0, 0, 0, 0, 0, 0, 0, 0, 0, 0, 0, 0, 0, 0, 0, 0, 0, 0, 0, 0, 0, 0, 0, 0, 0, 0, 0, 0, 0, 0, 0, 0, 0, 0, 0, 0, 0, 0, 0, 0, 0, 0, 0, 0, 0, 0, 0, 0, 0, 0, 0, 0, 0, 0, 0, 0, 0, 0, 0, 0, 0, 0, 0, 0, 0, 0, 0, 0, 0, 0, 0, 0, 0, 0, 0, 0, 0, 0, 0, 0, 0, 0, 0, 0, 0, 0, 0, 0, 0, 0, 0, 0, 0, 0, 0, 0, 0, 0, 0, 0, 0, 0, 0, 0, 0, 0, 0, 0, 0, 0, 0, 0, 0, 0, 0, 0, 0, 0, 0, 0, 0, 0, 0, 0, 0, 0, 0, 0, 0, 0, 0, 0, 0, 0, 0, 0, 0, 0, 0, 0, 0]),
  .inr (.inr (2, [.int 4, .int 0, .int 0, .int 0, .ref 31, .ref 32, .ref 33])),
  .inr (.inl (5, [some 34, some 35, some 36, some 37])),
  .inr (.inl (3, [some 38, some 39, some 40, some 41, some 42, some 43, some 44, some 45])),
  .inr (.inl (7, [some 46, some 47, some 48, some 49, some 50, some 51, some 52, some 53])),
  .inr (.inr (3, [.int 0, .int 0])),
  .inr (.inr (3, [.int 0, .int 0])),
  .inr (.inr (3, [.int 0, .int 0])),
  .inr (.inr (3, [.int 0, .int 0])),
  .inr (.inr (1, [.int 0, .int 0, .int 0, .int 0, .int 0, .int 0, .int 10])),
  .inr (.inr (1, [.int 0, .int 0, .int 0, .int 0, .int 0, .int 0, .int 10])),
  .inr (.inr (1, [.int 0, .int 0, .int 0, .int 0, .int 0, .int 0, .int 10])),
  .inr (.inr (1, [.int 0, .int 0, .int 0, .int 0, .int 0, .int 0, .int 10])),
  .inr (.inr (1, [.int 0, .int 0, .int 0, .int 0, .int 0, .int 0, .int 10])),
  .inr (.inr (1, [.int 0, .int 0, .int 0, .int 0, .int 0, .int 0, .int 10])),
  .inr (.inr (1, [.int 0, .int 0, .int 0, .int 0, .int 0, .int 0, .int 10])),
  .inr (.inr (1, [.int 0, .int 0, .int 0, .int 0, .int 0, .int 0, .int 10])),
  .inr (.inr (6, [.int 0, .int 0, .int 0, .int 0])),
  .inr (.inr (6, [.int 0, .int 0, .int 0, .int 0])),
  .inr (.inr (6, [.int 0, .int 0, .int 0, .int 0])),
  .inr (.inr (6, [.int 0, .int 0, .int 0, .int 0])),
  .inr (.inr (6, [.int 0, .int 0, .int 0, .int 0])),
  .inr (.inr (6, [.int 0, .int 0, .int 0, .int 0])),
  .inr (.inr (6, [.int 0, .int 0, .int 0, .int 0])),
  .inr (.inr (6, [.int 0, .int 0, .int 0, .int 0])),
  .inr (.inl (4, [some 56, some 80])),
  .inl (2, [0, 0]),
  .inr (.inr (2, [.int 4, .int 0, .int 0, .int 0, .ref 57, .ref 58, .ref 59])),
  .inr (.inl (5, [some 60, some 61, some 62, some 63])),
  .inr (.inl (3, [some 64, some 65, some 66, some 67, some 68, some 69, some 70, some 71])),
  .inr (.inl (7, [some 72, some 73, some 74, some 75, some 76, some 77, some 78, some 79])),
  .inr (.inr (3, [.int 0, .int 0])),
  .inr (.inr (3, [.int 0, .int 0])),
  .inr (.inr (3, [.int 0, .int 0])),
  .inr (.inr (3, [.int 0, .int 0])),
  .inr (.inr (1, [.int 0, .int 0, .int 0, .int 0, .int 0, .int 0, .int 10])),
  .inr (.inr (1, [.int 0, .int 0, .int 0, .int 0, .int 0, .int 0, .int 10])),
  .inr (.inr (1, [.int 0, .int 0, .int 0, .int 0, .int 0, .int 0, .int 10])),
  .inr (.inr (1, [.int 0, .int 0, .int 0, .int 0, .int 0, .int 0, .int 10])),
  .inr (.inr (1, [.int 0, .int 0, .int 0, .int 0, .int 0, .int 0, .int 10])),
  .inr (.inr (1, [.int 0, .int 0, .int 0, .int 0, .int 0, .int 0, .int 10])),
  .inr (.inr (1, [.int 0, .int 0, .int 0, .int 0, .int 0, .int 0, .int 10])),
  .inr (.inr (1, [.int 0, .int 0, .int 0, .int 0, .int 0, .int 0, .int 10])),
  .inr (.inr (6, [.int 0, .int 0, .int 0, .int 0])),
  .inr (.inr (6, [.int 0, .int 0, .int 0, .int 0])),
  .inr (.inr (6, [.int 0, .int 0, .int 0, .int 0])),
  .inr (.inr (6, [.int 0, .int 0, .int 0, .int 0])),
  .inr (.inr (6, [.int 0, .int 0, .int 0, .int 0])),
  .inr (.inr (6, [.int 0, .int 0, .int 0, .int 0])),
  .inr (.inr (6, [.int 0, .int 0, .int 0, .int 0])),
  .inr (.inr (6, [.int 0, .int 0, .int 0, .int 0])),
  .inr (.inr (2, [.int 4, .int 0, .int 0, .int 0, .ref 81, .ref 82, .ref 83])),
  .inr (.inl (5, [some 84, some 85, some 86, some 87])),
  .inr (.inl (3, [some 88, some 89, some 90, some 91, some 92, some 93, some 94, some 95])),
  .inr (.inl (7, [some 96, some 97, some 98, some 99, some 100, some 101, some 102, some 103])),
  .inr (.inr (3, [.int 0, .int 0])),
  .inr (.inr (3, [.int 0, .int 0])),
  .inr (.inr (3, [.int 0, .int 0])),
  .inr (.inr (3, [.int 0, .int 0])),
  .inr (.inr (1, [.int 0, .int 0, .int 0, .int 0, .int 0, .int 0, .int 10])),
  .inr (.inr (1, [.int 0, .int 0, .int 0, .int 0, .int 0, .int 0, .int 10])),
  .inr (.inr (1, [.int 0, .int 0, .int 0, .int 0, .int 0, .int 0, .int 10])),
  .inr (.inr (1, [.int 0, .int 0, .int 0, .int 0, .int 0, .int 0, .int 10])),
  .inr (.inr (1, [.int 0, .int 0, .int 0, .int 0, .int 0, .int 0, .int 10])),
  .inr (.inr (1, [.int 0, .int 0, .int 0, .int 0, .int 0, .int 0, .int 10])),
  .inr (.inr (1, [.int 0, .int 0, .int 0, .int 0, .int 0, .int 0, .int 10])),
  .inr (.inr (1, [.int 0, .int 0, .int 0, .int 0, .int 0, .int 0, .int 10])),
  .inr (.inr (6, [.int 0, .int 0, .int 0, .int 0])),
  .inr (.inr (6, [.int 0, .int 0, .int 0, .int 0])),
  .inr (.inr (6, [.int 0, .int 0, .int 0, .int 0])),
  .inr (.inr (6, [.int 0, .int 0, .int 0, .int 0])),
  .inr (.inr (6, [.int 0, .int 0, .int 0, .int 0])),
  .inr (.inr (6, [.int 0, .int 0, .int 0, .int 0])),
  .inr (.inr (6, [.int 0, .int 0, .int 0, .int 0])),
  .inr (.inr (6, [.int 0, .int 0, .int 0, .int 0])),
  .inr (.inl (6, [some 105, some 107, some 109, some 111])),
  .inr (.inr (5, [.int (-1), .ref 106, .int 0])),
  .inl (0, [0, 0, 0, 0, 0, 0, 0, 0, 0, 0, 0, 0, 0, 0, 0, 0, 0, 0, 0, 0, 0, 0, 0, 0, 0, 0, 0, 0, 0, 0, 0, 0, 0, 0, 0, 0, 0, 0, 0, 0]),
  .inr (.inr (5, [.int (-1), .ref 108, .int 0])),
  .inl (0, [0, 0, 0, 0, 0, 0, 0, 0, 0, 0, 0, 0, 0, 0, 0, 0, 0, 0, 0, 0, 0, 0, 0, 0, 0, 0, 0, 0, 0, 0, 0, 0, 0, 0, 0, 0, 0, 0, 0, 0]),
  .inr (.inr (5, [.int (-1), .ref 110, .int 0])),
  .inl (0, [0, 0, 0, 0, 0, 0, 0, 0, 0, 0, 0, 0, 0, 0, 0, 0, 0, 0, 0, 0, 0, 0, 0, 0, 0, 0, 0, 0, 0, 0, 0, 0, 0, 0, 0, 0, 0, 0, 0, 0]),
  .inr (.inr (5, [.int (-1), .ref 112, .int 0])),
  .inl (0, [0, 0, 0, 0, 0, 0, 0, 0, 0, 0, 0, 0, 0, 0, 0, 0, 0, 0, 0, 0, 0, 0, 0, 0, 0, 0, 0, 0, 0, 0, 0, 0, 0, 0, 0, 0, 0, 0, 0, 0]),
  .inr (.inr (8, [.ref 114, .ref 115, .int 4, .int 0, .ref 116, .int 4, .int 0, .int 0, .int 0, .int 0, .int (-4), .int (-4), .int (-4), .ref 117, .int 0, .int 0, .int 0, .int 0, .int 0, .int 0, .int 0, .int 0, .ref 118, .ref 119, .ref 120, .ref 121, .int 0, .ref 122])),
  .inl (0, [0, 0, 0, 0, 0, 0, 0, 0, 0, 0, 0, 0, 0, 0, 0, 10, 0, 0, 0, 0, 0, 0, 10, 0, 0, 0, 0, 0, 0, 10, 0, 0, 0, 0, 0, 0, 10, 0, 0, 0, 0, 0, 0, 10, 0, 0, 0, 0, 0, 0, 10, 0, 0, 0, 0, 0, 0, 10, 0, 0, 0, 0, 0, 0, 10, 0, 0, 0, 0, 0, 0, 0, 0, 0, 0, 0, 0, 0, 0, 0, 0, 0, 0, 0, 0, 0, 0, 0, 0, 0, 0, 0, 0, 0, 0, 0, 0, 0, 0, 0, 0, 0, 0, 0, 0, 0, 0, 0, 0, 0, 0, 0, 0, 0, 0, 0, 0, 0, 0, 0, 0, 0, 0, 0, 0, 0, 0, 0, 0, 0, 0, 0, 0, 0, 0, 0, 0, 0, 0, 0, 0, 0, 0, 0, 0, 0, 0, 0, 0, 0, 0, 0, 0, 0, 0, 0, 0, 0, 0, 0, 0, 0, 0, 0, 0, 0, 0, 0, 0, 0, 0, 0, 0, 0, 0, 0, 0, 0, 0, 0, 0, 0, 0, 0, 0, 0, 0, 0, 0, 0, 0, 0, 0, 0, 0, 0, 0, 0, 0, 0, 0, 0, 0, 0, 0, 0, 0, 0, 0, 0, 0, 0, 0, 0, 0, 0, 0, 0, 0, 0, 0, 0, 0, 0, 0, 0, 0, 0, 0, 0, 0, 0, 0, 0, 0, 0, 0, 0, 0, 0, 0, 0, 0, 0, 0, 0, 0, 0, 0, 0, 0, 0, 0, 0, 0, 0, 0, 0, 0, 0, 0, 0, 0, 0, 0, 0, 0, 0, 0, 0, 0, 0, 0, 0, 0, 0, 0, 0, 0, 0, 0, 0, 0, 0, 0, 0, 0, 0, 0, 0, 0, 0, 0, 0]),
  .inl (2, [0, 0]),
  .inl (0, [0, 0, 0, 0, 0, 0, 0, 0, 0, 0, 0, 0, 0, 0, 0, 10, 0, 0, 0, 0, 0, 0, 10, 0, 0, 0, 0, 0, 0, 10, 0, 0, 0, 0, 0, 0, 10, 0, 0, 0, 0, 0, 0, 10, 0, 0, 0, 0, 0, 0, 10, 0, 0, 0, 0, 0, 0, 10, 0, 0, 0, 0, 0, 0, 10, 0, 0, 0, 0, 0, 0, 0, 0, 0, 0, 0, 0, 0, 0, 0, 0, 0, 0, 0, 0, 0, 0, 0, 0, 0, 0, 0, 0, 0, 0, 0, 0, 0]),
  .inl (0, [0, 0, 0, 0, 0, 0, 0, 0, 0, 0, 0, 0, 0, 0, 0, 0, 0, 0, 0, 0, 0, 0, 0, 0, 0, 0, 0, 0, 0, 0, 0, 0, 0, 0, 0, 0, 0, 0, 0, 0, 0, 0, 0, 0, 0, 0, 0, 0, 0, 0, 0, 0, 0, 0, 0, 0, 0, 0, 0, 0, 0, 0, 0, 0, 0, 0, 0, 0, 0, 0, 0, 0, 0, 0, 0, 0, 0, 0, 0, 0, 0, 0, 0, 0, 0, 0, 0, 0, 0, 0, 0, 0, 0, 0, 0, 0, 0, 0, 0, 0, 0, 0, 0, 0, 0, 0, 0, 0, 0, 0, 0, 0, 0, 0, 0, 0, 0, 0, 0, 0, 0, 0, 0, 0, 0, 0, 0, 0, 0, 0, 0, 0, 0, 0, 0, 0, 0, 0, 0, 0, 0, 0, 0, 0, 0, 0, 0, 0, 0, 0, 0, 0, 0, 0, 0, 0, 0, 0, 0, 0]),
  .inl (0, [0, 0, 0, 0]),
  .inl (0, [(-4), (-4), (-4), (-4)]),
  .inl (0, [0, 0, 0, 0]),
  .inl (0, [0, 0, 0, 0, 0, 0, 0, 0, 0, 0, 0, 0, 0, 0, 0, 0, 0, 0, 0, 0, 0, 0, 0, 0, 0, 0, 0, 0, 0, 0, 0, 0, 0, 0, 0, 0, 0, 0, 0, 0, 0, 0, 0, 0, 0, 0, 0, 0, 0, 0, 0, 0, 0, 0, 0, 0, 0, 0, 0, 0, 0, 0, 0, 0, 0, 0, 0, 0, 0, 0, 0, 0, 0, 0, 0, 0, 0, 0, 0, 0, 0, 0, 0, 0, 0, 0, 0, 0, 0, 0, 0, 0, 0, 0, 0, 0, 0, 0, 0, 0, 0, 0, 0, 0, 0, 0, 0, 0, 0, 0, 0, 0, 0, 0, 0, 0, 0, 0, 0, 0, 0, 0, 0, 0, 0, 0, 0, 0, 0, 0, 0, 0, 0, 0, 0, 0, 0, 0, 0, 0, 0, 0, 0, 0, 0, 0, 0, 0, 0, 0, 0, 0, 0, 0, 0, 0, 0, 0, 0, 0]),
  .inl (0, [0, 0, 0, 0, 0, 0, 0, 0])]

def zm_eqc (a b : AC) : Bool := match a, b with
  | .inl x, .inl y => decide (x = y)
  | .inr (.inl x), .inr (.inl y) => decide (x = y)
  | .inr (.inr x), .inr (.inr y) => decide (x = y)
  | _, _ => false
theorem zm_eqc_s {a b : AC} (h : zm_eqc a b = true) : a = b := by
  unfold zm_eqc at h
  split at h
  · rw [of_decide_eq_true h]
  · rw [of_decide_eq_true h]
  · rw [of_decide_eq_true h]
  · cases h
def zm_eqh : HP → HP → Bool
  | [], [] => true
  | a :: x, b :: y => zm_eqc a b && zm_eqh x y
  | _, _ => false
theorem zm_eqh_s : ∀ (x y : HP), zm_eqh x y = true → x = y
  | [], [], _ => rfl
  | a :: x, b :: y, h => by
    simp only [zm_eqh, Bool.and_eq_true] at h
    rw [zm_eqc_s h.1, zm_eqh_s x y h.2]
  | [], _ :: _, h => by cases h
  | _ :: _, [], h => by cases h
def zm_eqr (r : Option (Nat × List Value × HP)) (p : Nat) (st : List Value) (h : HP) : Bool := match r with
  | some (q, s, k) => Nat.beq q p && decide (s = st) && zm_eqh k h
  | none => false
theorem zm_eqr_s {r : Option (Nat × List Value × HP)} {p : Nat} {st : List Value} {h : HP} (e : zm_eqr r p st h = true) : r = some (p, st, h) := by
  unfold zm_eqr at e
  split at e
  · simp only [Bool.and_eq_true, decide_eq_true_eq] at e
    rw [Nat.eq_of_beq_eq_true e.1.1, e.1.2, zm_eqh_s _ _ e.2]
  · cases e
set_option maxRecDepth 100000 in
theorem zv_cx : zm_run none 3000 11 53 0 (zm_ent (z_L 53) [.ref 0]) [] [.inr (.inr (7, z_dv 7))] = some (123, [], zv_hx) := zm_eqr_s (by decide +kernel)
set_option maxRecDepth 100000 in
theorem zv_cm : zm_run none 6000 11 106 0 (zm_ent (z_L 106) [.ref 113]) [] (zv_hx ++ [.inr (.inr (8, z_dv 8))]) = some (104, [], zv_h0) := zm_eqr_s (by decide +kernel)
set_option maxRecDepth 100000 in
theorem zv_pro (sc : List Int32) {Q : Nat × List Value × HP → Prop} (K : Wp (some sc) 12 z_law 18 [some (.ref 1000000), some (.ref 0), some (.ref 113), some (.int 0)] [] zv_h0 Q) : Wp (some sc) 12 z_law 0 (zm_ent (z_L z_law) [.ref zm_SP]) [] [] Q := by
  show Wp (some sc) 12 z_law 0 [some (.ref 1000000), none, none, none] [] [] Q
  refine Wp.steps 2 (pc1 := 4) (lo1 := [some (.ref 1000000), none, none, none]) (st1 := [.ref 0, .ref 0]) (h1 := [.inr (.inr (7, z_dv 7))]) rfl ?_
  refine Wp.call (as := [.ref 0]) (rest := [.ref 0]) rfl rfl rfl rfl rfl rfl rfl rfl rfl ?_
  refine Wp.anyS (Wp.run 3000 zv_cx ?_)
  show Wp (some sc) 12 z_law 7 [some (.ref 1000000), none, none, none] [.ref 0] zv_hx Q
  refine Wp.steps 3 (pc1 := 12) (lo1 := [some (.ref 1000000), some (.ref 0), none, none]) (st1 := [.ref 113, .ref 113]) (h1 := zv_hx ++ [.inr (.inr (8, z_dv 8))]) rfl ?_
  refine Wp.call (as := [.ref 113]) (rest := [.ref 113]) rfl rfl rfl rfl rfl rfl rfl rfl rfl ?_
  refine Wp.anyS (Wp.run 6000 zv_cm ?_)
  show Wp (some sc) 12 z_law 15 [some (.ref 1000000), some (.ref 0), none, none] [.ref 113] zv_h0 Q
  refine Wp.steps 3 (pc1 := 18) (lo1 := [some (.ref 1000000), some (.ref 0), some (.ref 113), some (.int 0)]) (st1 := []) (h1 := zv_h0) rfl ?_
  exact K
/-! both answer alike at a fresh object -/
def zv_Pi (jx jm : Nat) (as : List Value) : Prop := ∃ v h1 h2, Wp none 11 jx 0 (zm_ent (z_L jx) (.ref 0 :: as)) [] zv_h0 (fun r => r.2.1 = [.int v] ∧ r.2.2 = h1) ∧ zm_cls h1 113 = some 8 ∧ Wp none 11 jm 0 (zm_ent (z_L jm) (.ref 113 :: as)) [] h1 (fun r => r.2.1 = [.int v] ∧ r.2.2 = h2) ∧ h2.length ≤ 600000 ∧ zm_hsz h2 ≤ 7302250
def zv_bi (jx jm : Nat) (as : List Value) : Bool := match zm_run none 20000 11 jx 0 (zm_ent (z_L jx) (.ref 0 :: as)) [] zv_h0 with
  | some (_, [.int v], h1) => (match zm_cls h1 113, zm_run none 20000 11 jm 0 (zm_ent (z_L jm) (.ref 113 :: as)) [] h1 with
    | some 8, some (_, [.int w], h2) => decide (v = w) && Nat.ble h2.length 600000 && Nat.ble (zm_hsz h2) 7302250
    | _, _ => false)
  | _ => false
theorem zv_Pi_of {jx jm : Nat} {as : List Value} (h : zv_bi jx jm as = true) : zv_Pi jx jm as := by
  unfold zv_bi at h
  split at h
  · next p v h1 e1 =>
    split at h
    · next p2 w h2 e2 e3 =>
      simp only [Bool.and_eq_true, decide_eq_true_eq] at h
      obtain ⟨⟨a1, a2⟩, a3⟩ := h
      subst a1
      exact ⟨v, h1, h2, ⟨_, _, e1, rfl, rfl⟩, e2, ⟨_, _, e3, rfl, rfl⟩, Nat.le_of_ble_eq_true a2, Nat.le_of_ble_eq_true a3⟩
    · cases h
  · cases h
def zv_Pl (jx jm : Nat) (as : List Value) : Prop := ∃ v h1 h2, Wp none 11 jx 0 (zm_ent (z_L jx) (.ref 0 :: as)) [] zv_h0 (fun r => r.2.1 = [.long v] ∧ r.2.2 = h1) ∧ zm_cls h1 113 = some 8 ∧ Wp none 11 jm 0 (zm_ent (z_L jm) (.ref 113 :: as)) [] h1 (fun r => r.2.1 = [.long v] ∧ r.2.2 = h2) ∧ h2.length ≤ 600000 ∧ zm_hsz h2 ≤ 7302250
def zv_bl (jx jm : Nat) (as : List Value) : Bool := match zm_run none 20000 11 jx 0 (zm_ent (z_L jx) (.ref 0 :: as)) [] zv_h0 with
  | some (_, [.long v], h1) => (match zm_cls h1 113, zm_run none 20000 11 jm 0 (zm_ent (z_L jm) (.ref 113 :: as)) [] h1 with
    | some 8, some (_, [.long w], h2) => decide (v = w) && Nat.ble h2.length 600000 && Nat.ble (zm_hsz h2) 7302250
    | _, _ => false)
  | _ => false
theorem zv_Pl_of {jx jm : Nat} {as : List Value} (h : zv_bl jx jm as = true) : zv_Pl jx jm as := by
  unfold zv_bl at h
  split at h
  · next p v h1 e1 =>
    split at h
    · next p2 w h2 e2 e3 =>
      simp only [Bool.and_eq_true, decide_eq_true_eq] at h
      obtain ⟨⟨a1, a2⟩, a3⟩ := h
      subst a1
      exact ⟨v, h1, h2, ⟨_, _, e1, rfl, rfl⟩, e2, ⟨_, _, e3, rfl, rfl⟩, Nat.le_of_ble_eq_true a2, Nat.le_of_ble_eq_true a3⟩
    · cases h
  · cases h
theorem zv_len : zv_h0.length ≤ 600000 ∧ zm_hsz zv_h0 ≤ 7302250 := by decide +kernel
set_option maxRecDepth 100000 in
theorem zv_foot (a0 a1 a2 a3 a4 a5 : Int32) (h : HP) (hl : h.length ≤ 600000 ∧ zm_hsz h ≤ 7302250) : Wp (some [a0, a1, a2, a3, a4, a5]) 12 z_law 1338 [some (.ref 1000000), some (.ref 0), some (.ref 113), some (.int 0)] [] h zs_Q := by
  refine Wp.steps 5 (pc1 := 21) (lo1 := [some (.ref 1000000), some (.ref 0), some (.ref 113), some (.int 6)]) (st1 := [.int 6, .int 6]) (h1 := h) rfl ?_
  refine Wp.steps 4 (pc1 := 1345) (lo1 := [some (.ref 1000000), some (.ref 0), some (.ref 113), some (.int 6)]) (st1 := [.int 1]) (h1 := h) rfl ?_
  exact Wp.ret rfl rfl rfl ⟨rfl, hl.1, hl.2⟩
