/-! printed by wip/tools/endgen.py: the cells behind the two constructors -/
def zv_hx : HP := [.inr (.inr (7, [.ref 1, .ref 30, .ref 25, .ref 28, .ref 54, .ref 55, .ref 104, .int 0])),
  .inr (.inr (2, [.int 4, .int 0, .int 0, .int 0, .ref 2, .ref 3, .ref 4])),
  .inr (.inl (5, [some 5, some 6, some 7, some 8])),
  .inr (.inl (3, [some 9, some 10, some 11, some 12, some 13, some 14, some 15, some 16])),
  .inr (.inl (7, [some 17, some 18, some 19, some 20, some 21, some 22, some 23, some 24])),
  .inr (.inr (3, [.int 0, .int 0])),
  .inr (.inr (3, [.int 0, .int 0])),
  .inr (.inr (3, [.int 0, .int 0])),
  .inr (.inr (3, [.int 0, .int 0])),
  .inr (.inr (1, [.int 0, .int 0, .int 0, .int 0, .int 0, .int 0, .int 10])),
  .inr (.inr (1, [.int 0, .int 0, .int 0, .int 0, .int 0, .int 0, .int 10])),
  .inr (.inr (1, [.int 0, .int 0, .int 0, .int 0, .int 0, .int 0, .int 10])),
  .inr (.inr (1, [.int 0, .int 0, .int 0, .int 0, .int 0, .int 0, .int 10])),
  .inr (.inr (1, [.int 0, .int 0, .int 0, .int 0, .int 0, .int 0, .int 10])),
  .inr (.inr (1, [.int 0, .int 0, .int 0, .int 0, .int 0, .int 0, .int 10])),
  .inr (.inr (1, [.int 0, .int 0, .int 0, .int 0, .int 0, .int 0, .int 10])),
  .inr (.inr (1, [.int 0, .int 0, .int 0, .int 0, .int 0, .int 0, .int 10])),
  .inr (.inr (6, [.int 0, .int 0, .int 0, .int 0])),
  .inr (.inr (6, [.int 0, .int 0, .int 0, .int 0])),
  .inr (.inr (6, [.int 0, .int 0, .int 0, .int 0])),
  .inr (.inr (6, [.int 0, .int 0, .int 0, .int 0])),
  .inr (.inr (6, [.int 0, .int 0, .int 0, .int 0])),
  .inr (.inr (6, [.int 0, .int 0, .int 0, .int 0])),
  .inr (.inr (6, [.int 0, .int 0, .int 0, .int 0])),
  .inr (.inr (6, [.int 0, .int 0, .int 0, .int 0])),
  .inr (.inr (0, [.int 0, .int 0, .int 0, .int 0, .ref 26, .ref 27])),
  .inl (0, [0, 0, 0, 0, 0, 0, 0, 0]),
  .inl (0, [0, 0, 0, 0, 0, 0, 0, 0, 0, 0, 0, 0, 0, 0, 0, 0, 0, 0, 0, 0, 0, 0, 0, 0, 0, 0, 0, 0, 0, 0, 0, 0, 0, 0, 0, 0, 0, 0, 0, 0, 0, 0, 0, 0, 0, 0, 0, 0]),
  .inr (.inr (4, [.ref 29, .int 0, .int 0, .int 0, .ref 30, .int 0, .int 0, .int 0, .int 0, .int 0, .int 0, .int 0])),
  .inl (1, [0, 0, 0, 0, 0, 0, 0, 0, 0, 0, 0, 0, 0, 0, 0, 0, 0, 0, 0, 0, 0, 0, 0, 0, 0, 0, 0, 0, 0, 0, 0, 0, 0, 0, 0, 0, 0, 0, 0, 0, 0, 0, 0, 0, 0, 0, 0, 0, 0, 0, 0, 0, 0, 0, 0, 0, 0, 0, 0, 0, 0, 0, 0, 0, 0, 0, 0, 0, 0, 0, 0, 0, 0, 0, 0, 0, 0, 0, 0, 0, 0, 0, 0, 0, 0, 0, 0, 0, 0, 0, 0, 0, 0, 0, 0, 0, 0, 0, 0, 0, 0, 0, 0, 0, 0, 0, 0, 0, 0, 0, 0, 0, 0, 0, 0, 0, 0, 0, 0, 0, 0, 0, 0, 0, 0, 0, 0, 0, 0, 0, 0, 0, 0, 0, 0, 0, 0, 0, 0, 0, 0, 0, 0, 0, 0, 0, 0, 0, 0, 0, 0, 0, 0, 0, 0, 0, 0, 0, 0, 0]),
  .inr (.inr (2, [.int 4, .int 0, .int 0, .int 0, .ref 31, .ref 32, .ref 33])),
  .inr (.inl (5, [some 34, some 35, some 36, some 37])),
  .inr (.inl (3, [some 38, some 39, some 40, some 41, some 42, some 43, some 44, some 45])),
  .inr (.inl (7, [some 46, some 47, some 48, some 49, some 50, some 51, some 52, some 53])),
  .inr (.inr (3, [.int 0, .int 0])),
  .inr (.inr (3, [.int 0, .int 0])),
  .inr (.inr (3, [.int 0, .int 0])),
  .inr (.inr (3, [.int 0, .int 0])),
  .inr (.inr (1, [.int 0, .int 0, .int 0, .int 0, .int 0, .int 0, .int 10])),
  .inr (.inr (1, [.int 0, .int 0, .int 0, .int 0, .int 0, .int 0, .int 10])),
  .inr (.inr (1, [.int 0, .int 0, .int 0, .int 0, .int 0, .int 0, .int 10])),
  .inr (.inr (1, [.int 0, .int 0, .int 0, .int 0, .int 0, .int 0, .int 10])),
  .inr (.inr (1, [.int 0, .int 0, .int 0, .int 0, .int 0, .int 0, .int 10])),
  .inr (.inr (1, [.int 0, .int 0, .int 0, .int 0, .int 0, .int 0, .int 10])),
  .inr (.inr (1, [.int 0, .int 0, .int 0, .int 0, .int 0, .int 0, .int 10])),
  .inr (.inr (1, [.int 0, .int 0, .int 0, .int 0, .int 0, .int 0, .int 10])),
  .inr (.inr (6, [.int 0, .int 0, .int 0, .int 0])),
  .inr (.inr (6, [.int 0, .int 0, .int 0, .int 0])),
  .inr (.inr (6, [.int 0, .int 0, .int 0, .int 0])),
  .inr (.inr (6, [.int 0, .int 0, .int 0, .int 0])),
  .inr (.inr (6, [.int 0, .int 0, .int 0, .int 0])),
  .inr (.inr (6, [.int 0, .int 0, .int 0, .int 0])),
  .inr (.inr (6, [.int 0, .int 0, .int 0, .int 0])),
  .inr (.inr (6, [.int 0, .int 0, .int 0, .int 0])),
  .inr (.inl (4, [some 56, some 80])),
  .inl (2, [0, 0]),
  .inr (.inr (2, [.int 4, .int 0, .int 0, .int 0, .ref 57, .ref 58, .ref 59])),
  .inr (.inl (5, [some 60, some 61, some 62, some 63])),
  .inr (.inl (3, [some 64, some 65, some 66, some 67, some 68, some 69, some 70, some 71])),
  .inr (.inl (7, [some 72, some 73, some 74, some 75, some 76, some 77, some 78, some 79])),
  .inr (.inr (3, [.int 0, .int 0])),
  .inr (.inr (3, [.int 0, .int 0])),
  .inr (.inr (3, [.int 0, .int 0])),
  .inr (.inr (3, [.int 0, .int 0])),
  .inr (.inr (1, [.int 0, .int 0, .int 0, .int 0, .int 0, .int 0, .int 10])),
  .inr (.inr (1, [.int 0, .int 0, .int 0, .int 0, .int 0, .int 0, .int 10])),
  .inr (.inr (1, [.int 0, .int 0, .int 0, .int 0, .int 0, .int 0, .int 10])),
  .inr (.inr (1, [.int 0, .int 0, .int 0, .int 0, .int 0, .int 0, .int 10])),
  .inr (.inr (1, [.int 0, .int 0, .int 0, .int 0, .int 0, .int 0, .int 10])),
  .inr (.inr (1, [.int 0, .int 0, .int 0, .int 0, .int 0, .int 0, .int 10])),
  .inr (.inr (1, [.int 0, .int 0, .int 0, .int 0, .int 0, .int 0, .int 10])),
  .inr (.inr (1, [.int 0, .int 0, .int 0, .int 0, .int 0, .int 0, .int 10])),
  .inr (.inr (6, [.int 0, .int 0, .int 0, .int 0])),
  .inr (.inr (6, [.int 0, .int 0, .int 0, .int 0])),
  .inr (.inr (6, [.int 0, .int 0, .int 0, .int 0])),
  .inr (.inr (6, [.int 0, .int 0, .int 0, .int 0])),
  .inr (.inr (6, [.int 0, .int 0, .int 0, .int 0])),
  .inr (.inr (6, [.int 0, .int 0, .int 0, .int 0])),
  .inr (.inr (6, [.int 0, .int 0, .int 0, .int 0])),
  .inr (.inr (6, [.int 0, .int 0, .int 0, .int 0])),
  .inr (.inr (2, [.int 4, .int 0, .int 0, .int 0, .ref 81, .ref 82, .ref 83])),
  .inr (.inl (5, [some 84, some 85, some 86, some 87])),
  .inr (.inl (3, [some 88, some 89, some 90, some 91, some 92, some 93, some 94, some 95])),
  .inr (.inl (7, [some 96, some 97, some 98, some 99, some 100, some 101, some 102, some 103])),
  .inr (.inr (3, [.int 0, .int 0])),
  .inr (.inr (3, [.int 0, .int 0])),
  .inr (.inr (3, [.int 0, .int 0])),
  .inr (.inr (3, [.int 0, .int 0])),
  .inr (.inr (1, [.int 0, .int 0, .int 0, .int 0, .int 0, .int 0, .int 10])),
  .inr (.inr (1, [.int 0, .int 0, .int 0, .int 0, .int 0, .int 0, .int 10])),
  .inr (.inr (1, [.int 0, .int 0, .int 0, .int 0, .int 0, .int 0, .int 10])),
  .inr (.inr (1, [.int 0, .int 0, .int 0, .int 0, .int 0, .int 0, .int 10])),
  .inr (.inr (1, [.int 0, .int 0, .int 0, .int 0, .int 0, .int 0, .int 10])),
  .inr (.inr (1, [.int 0, .int 0, .int 0, .int 0, .int 0, .int 0, .int 10])),
  .inr (.inr (1, [.int 0, .int 0, .int 0, .int 0, .int 0, .int 0, .int 10])),
  .inr (.inr (1, [.int 0, .int 0, .int 0, .int 0, .int 0, .int 0, .int 10])),
  .inr (.inr (6, [.int 0, .int 0, .int 0, .int 0])),
  .inr (.inr (6, [.int 0, .int 0, .int 0, .int 0])),
  .inr (.inr (6, [.int 0, .int 0, .int 0, .int 0])),
  .inr (.inr (6, [.int 0, .int 0, .int 0, .int 0])),
  .inr (.inr (6, [.int 0, .int 0, .int 0, .int 0])),
  .inr (.inr (6, [.int 0, .int 0, .int 0, .int 0])),
  .inr (.inr (6, [.int 0, .int 0, .int 0, .int 0])),
  .inr (.inr (6, [.int 0, .int 0, .int 0, .int 0])),
  .inr (.inl (6, [some 105, some 107, some 109, some 111])),
  .inr (.inr (5, [.int (-1), .ref 106, .int 0])),
  .inl (0, [0, 0, 0, 0, 0, 0, 0, 0, 0, 0, 0, 0, 0, 0, 0, 0, 0, 0, 0, 0, 0, 0, 0, 0, 0, 0, 0, 0, 0, 0, 0, 0, 0, 0, 0, 0, 0, 0, 0, 0]),
  .inr (.inr (5, [.int (-1), .ref 108, .int 0])),
  .inl (0, [0, 0, 0, 0, 0, 0, 0, 0, 0, 0, 0, 0, 0, 0, 0, 0, 0, 0, 0, 0, 0, 0, 0, 0, 0, 0, 0, 0, 0, 0, 0, 0, 0, 0, 0, 0, 0, 0, 0, 0]),
  .inr (.inr (5, [.int (-1), .ref 110, .int 0])),
  .inl (0, [0, 0, 0, 0, 0, 0, 0, 0, 0, 0, 0, 0, 0, 0, 0, 0, 0, 0, 0, 0, 0, 0, 0, 0, 0, 0, 0, 0, 0, 0, 0, 0, 0, 0, 0, 0, 0, 0, 0, 0]),
  .inr (.inr (5, [.int (-1), .ref 112, .int 0])),
  .inl (0, [0, 0, 0, 0, 0, 0, 0, 0, 0, 0, 0, 0, 0, 0, 0, 0, 0, 0, 0, 0, 0, 0, 0, 0, 0, 0, 0, 0, 0, 0, 0, 0, 0, 0, 0, 0, 0, 0, 0, 0])]
def zv_h0 : HP := [.inr (.inr (7, [.ref 1, .ref 30, .ref 25, .ref 28, .ref 54, .ref 55, .ref 104, .int 0])),
  .inr (.inr (2, [.int 4, .int 0, .int 0, .int 0, .ref 2, .ref 3, .ref 4])),
  .inr (.inl (5, [some 5, some 6, some 7, some 8])),
  .inr (.inl (3, [some 9, some 10, some 11, some 12, some 13, some 14, some 15, some 16])),
  .inr (.inl (7, [some 17, some 18, some 19, some 20, some 21, some 22, some 23, some 24])),
  .inr (.inr (3, [.int 0, .int 0])),
  .inr (.inr (3, [.int 0, .int 0])),
  .inr (.inr (3, [.int 0, .int 0])),
  .inr (.inr (3, [.int 0, .int 0])),
  .inr (.inr (1, [.int 0, .int 0, .int 0, .int 0, .int 0, .int 0, .int 10])),
  .inr (.inr (1, [.int 0, .int 0, .int 0, .int 0, .int 0, .int 0, .int 10])),
  .inr (.inr (1, [.int 0, .int 0, .int 0, .int 0, .int 0, .int 0, .int 10])),
  .inr (.inr (1, [.int 0, .int 0, .int 0, .int 0, .int 0, .int 0, .int 10])),
  .inr (.inr (1, [.int 0, .int 0, .int 0, .int 0, .int 0, .int 0, .int 10])),
  .inr (.inr (1, [.int 0, .int 0, .int 0, .int 0, .int 0, .int 0, .int 10])),
  .inr (.inr (1, [.int 0, .int 0, .int 0, .int 0, .int 0, .int 0, .int 10])),
  .inr (.inr (1, [.int 0, .int 0, .int 0, .int 0, .int 0, .int 0, .int 10])),
  .inr (.inr (6, [.int 0, .int 0, .int 0, .int 0])),
  .inr (.inr (6, [.int 0, .int 0, .int 0, .int 0])),
  .inr (.inr (6, [.int 0, .int 0, .int 0, .int 0])),
  .inr (.inr (6, [.int 0, .int 0, .int 0, .int 0])),
  .inr (.inr (6, [.int 0, .int 0, .int 0, .int 0])),
  .inr (.inr (6, [.int 0, .int 0, .int 0, .int 0])),
  .inr (.inr (6, [.int 0, .int 0, .int 0, .int 0])),
  .inr (.inr (6, [.int 0, .int 0, .int 0, .int 0])),
  .inr (.inr (0, [.int 0, .int 0, .int 0, .int 0, .ref 26, .ref 27])),
  .inl (0, [0, 0, 0, 0, 0, 0, 0, 0]),
  .inl (0, [0, 0, 0, 0, 0, 0, 0, 0, 0, 0, 0, 0, 0, 0, 0, 0, 0, 0, 0, 0, 0, 0, 0, 0, 0, 0, 0, 0, 0, 0, 0, 0, 0, 0, 0, 0, 0, 0, 0, 0, 0, 0, 0, 0, 0, 0, 0, 0]),
  .inr (.inr (4, [.ref 29, .int 0, .int 0, .int 0, .ref 30, .int 0, .int 0, .int 0, .int 0, .int 0, .int 0, .int 0])),
  .inl (1, [0, 0, 0, 0, 0, 0, 0, 0, 0, 0, 0, 0, 0, 0, 0, 0, 0, 0, 0, 0, 0, 0, 0, 0, 0, 0, 0, 0, 0, 0, 0, 0, 0, 0, 0, 0, 0, 0, 0, 0, 0, 0, 0, 0, 0, 0, 0, 0, 0, 0, 0, 0, 0, 0, 0, 0, 0, 0, 0, 0, 0, 0, 0, 0, 0, 0, 0, 0, 0, 0, 0, 0, 0, 0, 0, 0, 0, 0, 0, 0, 0, 0, 0, 0, 0, 0, 0, 0, 0, 0, 0, 0, 0, 0, 0, 0, 0, 0, 0, 0, 0, 0, 0, 0, 0, 0, 0, 0, 0, 0, 0, 0, 0, 0, 0, 0, 0, 0, 0, 0, 0, 0, 0, 0, 0, 0, 0, 0, 0, 0, 0, 0, 0, 0, 0, 0, 0, 0, 0, 0, 0, 0, 0, 0, 0, 0, 0, 0, 0, 0, 0, 0, 0, 0, 0, 0, 0, 0, 0, 0]),
  .inr (.inr (2, [.int 4, .int 0, .int 0, .int 0, .ref 31, .ref 32, .ref 33])),
  .inr (.inl (5, [some 34, some 35, some 36, some 37])),
  .inr (.inl (3, [some 38, some 39, some 40, some 41, some 42, some 43, some 44, some 45])),
  .inr (.inl (7, [some 46, some 47, some 48, some 49, some 50, some 51, some 52, some 53])),
  .inr (.inr (3, [.int 0, .int 0])),
  .inr (.inr (3, [.int 0, .int 0])),
  .inr (.inr (3, [.int 0, .int 0])),
  .inr (.inr (3, [.int 0, .int 0])),
  .inr (.inr (1, [.int 0, .int 0, .int 0, .int 0, .int 0, .int 0, .int 10])),
  .inr (.inr (1, [.int 0, .int 0, .int 0, .int 0, .int 0, .int 0, .int 10])),
  .inr (.inr (1, [.int 0, .int 0, .int 0, .int 0, .int 0, .int 0, .int 10])),
  .inr (.inr (1, [.int 0, .int 0, .int 0, .int 0, .int 0, .int 0, .int 10])),
  .inr (.inr (1, [.int 0, .int 0, .int 0, .int 0, .int 0, .int 0, .int 10])),
  .inr (.inr (1, [.int 0, .int 0, .int 0, .int 0, .int 0, .int 0, .int 10])),
  .inr (.inr (1, [.int 0, .int 0, .int 0, .int 0, .int 0, .int 0, .int 10])),
  .inr (.inr (1, [.int 0, .int 0, .int 0, .int 0, .int 0, .int 0, .int 10])),
  .inr (.inr (6, [.int 0, .int 0, .int 0, .int 0])),
  .inr (.inr (6, [.int 0, .int 0, .int 0, .int 0])),
  .inr (.inr (6, [.int 0, .int 0, .int 0, .int 0])),
  .inr (.inr (6, [.int 0, .int 0, .int 0, .int 0])),
  .inr (.inr (6, [.int 0, .int 0, .int 0, .int 0])),
  .inr (.inr (6, [.int 0, .int 0, .int 0, .int 0])),
  .inr (.inr (6, [.int 0, .int 0, .int 0, .int 0])),
  .inr (.inr (6, [.int 0, .int 0, .int 0, .int 0])),
  .inr (.inl (4, [some 56, some 80])),
  .inl (2, [0, 0]),
  .inr (.inr (2, [.int 4, .int 0, .int 0, .int 0, .ref 57, .ref 58, .ref 59])),
  .inr (.inl (5, [some 60, some 61, some 62, some 63])),
  .inr (.inl (3, [some 64, some 65, some 66, some 67, some 68, some 69, some 70, some 71])),
  .inr (.inl (7, [some 72, some 73, some 74, some 75, some 76, some 77, some 78, some 79])),
  .inr (.inr (3, [.int 0, .int 0])),
  .inr (.inr (3, [.int 0, .int 0])),
  .inr (.inr (3, [.int 0, .int 0])),
  .inr (.inr (3, [.int 0, .int 0])),
  .inr (.inr (1, [.int 0, .int 0, .int 0, .int 0, .int 0, .int 0, .int 10])),
  .inr (.inr (1, [.int 0, .int 0, .int 0, .int 0, .int 0, .int 0, .int 10])),
  .inr (.inr (1, [.int 0, .int 0, .int 0, .int 0, .int 0, .int 0, .int 10])),
  .inr (.inr (1, [.int 0, .int 0, .int 0, .int 0, .int 0, .int 0, .int 10])),
  .inr (.inr (1, [.int 0, .int 0, .int 0, .int 0, .int 0, .int 0, .int 10])),
  .inr (.inr (1, [.int 0, .int 0, .int 0, .int 0, .int 0, .int 0, .int 10])),
  .inr (.inr (1, [.int 0, .int 0, .int 0, .int 0, .int 0, .int 0, .int 10])),
  .inr (.inr (1, [.int 0, .int 0, .int 0, .int 0, .int 0, .int 0, .int 10])),
  .inr (.inr (6, [.int 0, .int 0, .int 0, .int 0])),
  .inr (.inr (6, [.int 0, .int 0, .int 0, .int 0])),
  .inr (.inr (6, [.int 0, .int 0, .int 0, .int 0])),
  .inr (.inr (6, [.int 0, .int 0, .int 0, .int 0])),
  .inr (.inr (6, [.int 0, .int 0, .int 0, .int 0])),
  .inr (.inr (6, [.int 0, .int 0, .int 0, .int 0])),
  .inr (.inr (6, [.int 0, .int 0, .int 0, .int 0])),
  .inr (.inr (6, [.int 0, .int 0, .int 0, .int 0])),
  .inr (.inr (2, [.int 4, .int 0, .int 0, .int 0, .ref 81, .ref 82, .ref 83])),
  .inr (.inl (5, [some 84, some 85, some 86, some 87])),
  .inr (.inl (3, [some 88, some 89, some 90, some 91, some 92, some 93, some 94, some 95])),
  .inr (.inl (7, [some 96, some 97, some 98, some 99, some 100, some 101, some 102, some 103])),
  .inr (.inr (3, [.int 0, .int 0])),
  .inr (.inr (3, [.int 0, .int 0])),
  .inr (.inr (3, [.int 0, .int 0])),
  .inr (.inr (3, [.int 0, .int 0])),
  .inr (.inr (1, [.int 0, .int 0, .int 0, .int 0, .int 0, .int 0, .int 10])),
  .inr (.inr (1, [.int 0, .int 0, .int 0, .int 0, .int 0, .int 0, .int 10])),
  .inr (.inr (1, [.int 0, .int 0, .int 0, .int 0, .int 0, .int 0, .int 10])),
  .inr (.inr (1, [.int 0, .int 0, .int 0, .int 0, .int 0, .int 0, .int 10])),
  .inr (.inr (1, [.int 0, .int 0, .int 0, .int 0, .int 0, .int 0, .int 10])),
  .inr (.inr (1, [.int 0, .int 0, .int 0, .int 0, .int 0, .int 0, .int 10])),
  .inr (.inr (1, [.int 0, .int 0, .int 0, .int 0, .int 0, .int 0, .int 10])),
  .inr (.inr (1, [.int 0, .int 0, .int 0, .int 0, .int 0, .int 0, .int 10])),
  .inr (.inr (6, [.int 0, .int 0, .int 0, .int 0])),
  .inr (.inr (6, [.int 0, .int 0, .int 0, .int 0])),
  .inr (.inr (6, [.int 0, .int 0, .int 0, .int 0])),
  .inr (.inr (6, [.int 0, .int 0, .int 0, .int 0])),
  .inr (.inr (6, [.int 0, .int 0, .int 0, .int 0])),
  .inr (.inr (6, [.int 0, .int 0, .int 0, .int 0])),
  .inr (.inr (6, [.int 0, .int 0, .int 0, .int 0])),
  .inr (.inr (6, [.int 0, .int 0, .int 0, .int 0])),
  .inr (.inl (6, [some 105, some 107, some 109, some 111])),
  .inr (.inr (5, [.int (-1), .ref 106, .int 0])),
  .inl (0, [0, 0, 0, 0, 0, 0, 0, 0, 0, 0, 0, 0, 0, 0, 0, 0, 0, 0, 0, 0, 0, 0, 0, 0, 0, 0, 0, 0, 0, 0, 0, 0, 0, 0, 0, 0, 0, 0, 0, 0]),
  .inr (.inr (5, [.int (-1), .ref 108, .int 0])),
  .inl (0, [0, 0, 0, 0, 0, 0, 0, 0, 0, 0, 0, 0, 0, 0, 0, 0, 0, 0, 0, 0, 0, 0, 0, 0, 0, 0, 0, 0, 0, 0, 0, 0, 0, 0, 0, 0, 0, 0, 0, 0]),
  .inr (.inr (5, [.int (-1), .ref 110, .int 0])),
  .inl (0, [0, 0, 0, 0, 0, 0, 0, 0, 0, 0, 0, 0, 0, 0, 0, 0, 0, 0, 0, 0, 0, 0, 0, 0, 0, 0, 0, 0, 0, 0, 0, 0, 0, 0, 0, 0, 0, 0, 0, 0]),
  .inr (.inr (5, [.int (-1), .ref 112, .int 0])),
  .inl (0, [0, 0, 0, 0, 0, 0, 0, 0, 0, 0, 0, 0, 0, 0, 0, 0, 0, 0, 0, 0, 0, 0, 0, 0, 0, 0, 0, 0, 0, 0, 0, 0, 0, 0, 0, 0, 0, 0, 0, 0]),
  .inr (.inr (8, [.ref 114, .ref 115, .int 4, .int 0, .ref 116, .int 4, .int 0, .int 0, .int 0, .int 0, .int (-4), .int (-4), .int (-4), .ref 117, .int 0, .int 0, .int 0, .int 0, .int 0, .int 0, .int 0, .int 0, .ref 118, .ref 119, .ref 120, .ref 121, .int 0, .ref 122])),
  .inl (0, [0, 0, 0, 0, 0, 0, 0, 0, 0, 0, 0, 0, 0, 0, 0, 10, 0, 0, 0, 0, 0, 0, 10, 0, 0, 0, 0, 0, 0, 10, 0, 0, 0, 0, 0, 0, 10, 0, 0, 0, 0, 0, 0, 10, 0, 0, 0, 0, 0, 0, 10, 0, 0, 0, 0, 0, 0, 10, 0, 0, 0, 0, 0, 0, 10, 0, 0, 0, 0, 0, 0, 0, 0, 0, 0, 0, 0, 0, 0, 0, 0, 0, 0, 0, 0, 0, 0, 0, 0, 0, 0, 0, 0, 0, 0, 0, 0, 0, 0, 0, 0, 0, 0, 0, 0, 0, 0, 0, 0, 0, 0, 0, 0, 0, 0, 0, 0, 0, 0, 0, 0, 0, 0, 0, 0, 0, 0, 0, 0, 0, 0, 0, 0, 0, 0, 0, 0, 0, 0, 0, 0, 0, 0, 0, 0, 0, 0, 0, 0, 0, 0, 0, 0, 0, 0, 0, 0, 0, 0, 0, 0, 0, 0, 0, 0, 0, 0, 0, 0, 0, 0, 0, 0, 0, 0, 0, 0, 0, 0, 0, 0, 0, 0, 0, 0, 0, 0, 0, 0, 0, 0, 0, 0, 0, 0, 0, 0, 0, 0, 0, 0, 0, 0, 0, 0, 0, 0, 0, 0, 0, 0, 0, 0, 0, 0, 0, 0, 0, 0, 0, 0, 0, 0, 0, 0, 0, 0, 0, 0, 0, 0, 0, 0, 0, 0, 0, 0, 0, 0, 0, 0, 0, 0, 0, 0, 0, 0, 0, 0, 0, 0, 0, 0, 0, 0, 0, 0, 0, 0, 0, 0, 0, 0, 0, 0, 0, 0, 0, 0, 0, 0, 0, 0, 0, 0, 0, 0, 0, 0, 0, 0, 0, 0, 0, 0, 0, 0, 0, 0, 0, 0, 0, 0, 0]),
  .inl (2, [0, 0]),
  .inl (0, [0, 0, 0, 0, 0, 0, 0, 0, 0, 0, 0, 0, 0, 0, 0, 10, 0, 0, 0, 0, 0, 0, 10, 0, 0, 0, 0, 0, 0, 10, 0, 0, 0, 0, 0, 0, 10, 0, 0, 0, 0, 0, 0, 10, 0, 0, 0, 0, 0, 0, 10, 0, 0, 0, 0, 0, 0, 10, 0, 0, 0, 0, 0, 0, 10, 0, 0, 0, 0, 0, 0, 0, 0, 0, 0, 0, 0, 0, 0, 0, 0, 0, 0, 0, 0, 0, 0, 0, 0, 0, 0, 0, 0, 0, 0, 0, 0, 0]),
  .inl (0, [0, 0, 0, 0, 0, 0, 0, 0, 0, 0, 0, 0, 0, 0, 0, 0, 0, 0, 0, 0, 0, 0, 0, 0, 0, 0, 0, 0, 0, 0, 0, 0, 0, 0, 0, 0, 0, 0, 0, 0, 0, 0, 0, 0, 0, 0, 0, 0, 0, 0, 0, 0, 0, 0, 0, 0, 0, 0, 0, 0, 0, 0, 0, 0, 0, 0, 0, 0, 0, 0, 0, 0, 0, 0, 0, 0, 0, 0, 0, 0, 0, 0, 0, 0, 0, 0, 0, 0, 0, 0, 0, 0, 0, 0, 0, 0, 0, 0, 0, 0, 0, 0, 0, 0, 0, 0, 0, 0, 0, 0, 0, 0, 0, 0, 0, 0, 0, 0, 0, 0, 0, 0, 0, 0, 0, 0, 0, 0, 0, 0, 0, 0, 0, 0, 0, 0, 0, 0, 0, 0, 0, 0, 0, 0, 0, 0, 0, 0, 0, 0, 0, 0, 0, 0, 0, 0, 0, 0, 0, 0]),
  .inl (0, [0, 0, 0, 0]),
  .inl (0, [(-4), (-4), (-4), (-4)]),
  .inl (0, [0, 0, 0, 0]),
  .inl (0, [0, 0, 0, 0, 0, 0, 0, 0, 0, 0, 0, 0, 0, 0, 0, 0, 0, 0, 0, 0, 0, 0, 0, 0, 0, 0, 0, 0, 0, 0, 0, 0, 0, 0, 0, 0, 0, 0, 0, 0, 0, 0, 0, 0, 0, 0, 0, 0, 0, 0, 0, 0, 0, 0, 0, 0, 0, 0, 0, 0, 0, 0, 0, 0, 0, 0, 0, 0, 0, 0, 0, 0, 0, 0, 0, 0, 0, 0, 0, 0, 0, 0, 0, 0, 0, 0, 0, 0, 0, 0, 0, 0, 0, 0, 0, 0, 0, 0, 0, 0, 0, 0, 0, 0, 0, 0, 0, 0, 0, 0, 0, 0, 0, 0, 0, 0, 0, 0, 0, 0, 0, 0, 0, 0, 0, 0, 0, 0, 0, 0, 0, 0, 0, 0, 0, 0, 0, 0, 0, 0, 0, 0, 0, 0, 0, 0, 0, 0, 0, 0, 0, 0, 0, 0, 0, 0, 0, 0, 0, 0]),
  .inl (0, [0, 0, 0, 0, 0, 0, 0, 0])]
def zm_eqc (a b : AC) : Bool := match a, b with
  | .inl x, .inl y => decide (x = y)
  | .inr (.inl x), .inr (.inl y) => decide (x = y)
  | .inr (.inr x), .inr (.inr y) => decide (x = y)
  | _, _ => false
theorem zm_eqc_s {a b : AC} (h : zm_eqc a b = true) : a = b := by
  unfold zm_eqc at h
  split at h
  · rw [of_decide_eq_true h]
  · rw [of_decide_eq_true h]
  · rw [of_decide_eq_true h]
  · cases h
def zm_eqh : HP → HP → Bool
  | [], [] => true
  | a :: x, b :: y => zm_eqc a b && zm_eqh x y
  | _, _ => false
theorem zm_eqh_s : ∀ (x y : HP), zm_eqh x y = true → x = y
  | [], [], _ => rfl
  | a :: x, b :: y, h => by
    simp only [zm_eqh, Bool.and_eq_true] at h
    rw [zm_eqc_s h.1, zm_eqh_s x y h.2]
  | [], _ :: _, h => by cases h
  | _ :: _, [], h => by cases h
def zm_eqr (r : Option (Nat × List Value × HP)) (p : Nat) (st : List Value) (h : HP) : Bool := match r with
  | some (q, s, k) => Nat.beq q p && decide (s = st) && zm_eqh k h
  | none => false
theorem zm_eqr_s {r : Option (Nat × List Value × HP)} {p : Nat} {st : List Value} {h : HP} (e : zm_eqr r p st h = true) : r = some (p, st, h) := by
  unfold zm_eqr at e
  split at e
  · simp only [Bool.and_eq_true, decide_eq_true_eq] at e
    rw [Nat.eq_of_beq_eq_true e.1.1, e.1.2, zm_eqh_s _ _ e.2]
  · cases e
set_option maxRecDepth 100000 in
theorem zv_cx : zm_run none 3000 11 53 0 (zm_ent (z_L 53) [.ref 0]) [] [.inr (.inr (7, z_dv 7))] = some (123, [], zv_hx) := zm_eqr_s (by decide +kernel)
set_option maxRecDepth 100000 in
theorem zv_cm : zm_run none 6000 11 106 0 (zm_ent (z_L 106) [.ref 113]) [] (zv_hx ++ [.inr (.inr (8, z_dv 8))]) = some (104, [], zv_h0) := zm_eqr_s (by decide +kernel)
set_option maxRecDepth 100000 in
theorem zv_pro (sc : List Int32) {Q : Nat × List Value × HP → Prop} (K : Wp (some sc) 12 z_law 18 [some (.ref 1000000), some (.ref 0), some (.ref 113), some (.int 0)] [] zv_h0 Q) : Wp (some sc) 12 z_law 0 (zm_ent (z_L z_law) [.ref zm_SP]) [] [] Q := by
  show Wp (some sc) 12 z_law 0 [some (.ref 1000000), none, none, none] [] [] Q
  refine Wp.steps 2 (pc1 := 4) (lo1 := [some (.ref 1000000), none, none, none]) (st1 := [.ref 0, .ref 0]) (h1 := [.inr (.inr (7, z_dv 7))]) rfl ?_
  refine Wp.call (as := [.ref 0]) (rest := [.ref 0]) rfl rfl rfl rfl rfl rfl rfl rfl rfl ?_
  refine Wp.anyS (Wp.run 3000 zv_cx ?_)
  show Wp (some sc) 12 z_law 7 [some (.ref 1000000), none, none, none] [.ref 0] zv_hx Q
  refine Wp.steps 3 (pc1 := 12) (lo1 := [some (.ref 1000000), some (.ref 0), none, none]) (st1 := [.ref 113, .ref 113]) (h1 := zv_hx ++ [.inr (.inr (8, z_dv 8))]) rfl ?_
  refine Wp.call (as := [.ref 113]) (rest := [.ref 113]) rfl rfl rfl rfl rfl rfl rfl rfl rfl ?_
  refine Wp.anyS (Wp.run 6000 zv_cm ?_)
  show Wp (some sc) 12 z_law 15 [some (.ref 1000000), some (.ref 0), none, none] [.ref 113] zv_h0 Q
  refine Wp.steps 3 (pc1 := 18) (lo1 := [some (.ref 1000000), some (.ref 0), some (.ref 113), some (.int 0)]) (st1 := []) (h1 := zv_h0) rfl ?_
  exact K
def zg_0L : List (List Int32) := [[0, 0, 0, 0, 0, 0, 0, 0],
  [4, 0, 0, 0, 0, 0, 0],
  [],
  [],
  [],
  [0, 0],
  [0, 0],
  [0, 0],
  [0, 0],
  [0, 0, 0, 0, 0, 0, 10],
  [0, 0, 0, 0, 0, 0, 10],
  [0, 0, 0, 0, 0, 0, 10],
  [0, 0, 0, 0, 0, 0, 10],
  [0, 0, 0, 0, 0, 0, 10],
  [0, 0, 0, 0, 0, 0, 10],
  [0, 0, 0, 0, 0, 0, 10],
  [0, 0, 0, 0, 0, 0, 10],
  [0, 0, 0, 0],
  [0, 0, 0, 0],
  [0, 0, 0, 0],
  [0, 0, 0, 0],
  [0, 0, 0, 0],
  [0, 0, 0, 0],
  [0, 0, 0, 0],
  [0, 0, 0, 0],
  [0, 0, 0, 0, 0, 0],
  [0, 0, 0, 0, 0, 0, 0, 0],
  [0, 0, 0, 0, 0, 0, 0, 0, 0, 0, 0, 0, 0, 0, 0, 0, 0, 0, 0, 0, 0, 0, 0, 0, 0, 0, 0, 0, 0, 0, 0, 0, 0, 0, 0, 0, 0, 0, 0, 0, 0, 0, 0, 0, 0, 0, 0, 0],
  [0, 0, 0, 0, 0, 0, 0, 0, 0, 0, 0, 0],
  [0, 0, 0, 0, 0, 0, 0, 0, 0, 0, 0, 0, 0, 0, 0, 0, 0, 0, 0, 0, 0, 0, 0, 0, 0, 0, 0, 0, 0, 0, 0, 0, 0, 0, 0, 0, 0, 0, 0, 0, 0, 0, 0, 0, 0, 0, 0, 0, 0, 0, 0, 0, 0, 0, 0, 0, 0, 0, 0, 0, 0, 0, 0, 0, 0, 0, 0, 0, 0, 0, 0, 0, 0, 0, 0, 0, 0, 0, 0, 0, 0, 0, 0, 0, 0, 0, 0, 0, 0, 0, 0, 0, 0, 0, 0, 0, 0, 0, 0, 0, 0, 0, 0, 0, 0, 0, 0, 0, 0, 0, 0, 0, 0, 0, 0, 0, 0, 0, 0, 0, 0, 0, 0, 0, 0, 0, 0, 0, 0, 0, 0, 0, 0, 0, 0, 0, 0, 0, 0, 0, 0, 0, 0, 0, 0, 0, 0, 0, 0, 0, 0, 0, 0, 0, 0, 0, 0, 0, 0, 0],
  [4, 0, 0, 0, 0, 0, 0],
  [],
  [],
  [],
  [0, 0],
  [0, 0],
  [0, 0],
  [0, 0],
  [0, 0, 0, 0, 0, 0, 10],
  [0, 0, 0, 0, 0, 0, 10],
  [0, 0, 0, 0, 0, 0, 10],
  [0, 0, 0, 0, 0, 0, 10],
  [0, 0, 0, 0, 0, 0, 10],
  [0, 0, 0, 0, 0, 0, 10],
  [0, 0, 0, 0, 0, 0, 10],
  [0, 0, 0, 0, 0, 0, 10],
  [0, 0, 0, 0],
  [0, 0, 0, 0],
  [0, 0, 0, 0],
  [0, 0, 0, 0],
  [0, 0, 0, 0],
  [0, 0, 0, 0],
  [0, 0, 0, 0],
  [0, 0, 0, 0],
  [],
  [0, 0],
  [4, 0, 0, 0, 0, 0, 0],
  [],
  [],
  [],
  [0, 0],
  [0, 0],
  [0, 0],
  [0, 0],
  [0, 0, 0, 0, 0, 0, 10],
  [0, 0, 0, 0, 0, 0, 10],
  [0, 0, 0, 0, 0, 0, 10],
  [0, 0, 0, 0, 0, 0, 10],
  [0, 0, 0, 0, 0, 0, 10],
  [0, 0, 0, 0, 0, 0, 10],
  [0, 0, 0, 0, 0, 0, 10],
  [0, 0, 0, 0, 0, 0, 10],
  [0, 0, 0, 0],
  [0, 0, 0, 0],
  [0, 0, 0, 0],
  [0, 0, 0, 0],
  [0, 0, 0, 0],
  [0, 0, 0, 0],
  [0, 0, 0, 0],
  [0, 0, 0, 0],
  [4, 0, 0, 0, 0, 0, 0],
  [],
  [],
  [],
  [0, 0],
  [0, 0],
  [0, 0],
  [0, 0],
  [0, 0, 0, 0, 0, 0, 10],
  [0, 0, 0, 0, 0, 0, 10],
  [0, 0, 0, 0, 0, 0, 10],
  [0, 0, 0, 0, 0, 0, 10],
  [0, 0, 0, 0, 0, 0, 10],
  [0, 0, 0, 0, 0, 0, 10],
  [0, 0, 0, 0, 0, 0, 10],
  [0, 0, 0, 0, 0, 0, 10],
  [0, 0, 0, 0],
  [0, 0, 0, 0],
  [0, 0, 0, 0],
  [0, 0, 0, 0],
  [0, 0, 0, 0],
  [0, 0, 0, 0],
  [0, 0, 0, 0],
  [0, 0, 0, 0],
  [],
  [(-1), 0, 0],
  [0, 0, 0, 0, 0, 0, 0, 0, 0, 0, 0, 0, 0, 0, 0, 0, 0, 0, 0, 0, 0, 0, 0, 0, 0, 0, 0, 0, 0, 0, 0, 0, 0, 0, 0, 0, 0, 0, 0, 0],
  [(-1), 0, 0],
  [0, 0, 0, 0, 0, 0, 0, 0, 0, 0, 0, 0, 0, 0, 0, 0, 0, 0, 0, 0, 0, 0, 0, 0, 0, 0, 0, 0, 0, 0, 0, 0, 0, 0, 0, 0, 0, 0, 0, 0],
  [(-1), 0, 0],
  [0, 0, 0, 0, 0, 0, 0, 0, 0, 0, 0, 0, 0, 0, 0, 0, 0, 0, 0, 0, 0, 0, 0, 0, 0, 0, 0, 0, 0, 0, 0, 0, 0, 0, 0, 0, 0, 0, 0, 0],
  [(-1), 0, 0],
  [0, 0, 0, 0, 0, 0, 0, 0, 0, 0, 0, 0, 0, 0, 0, 0, 0, 0, 0, 0, 0, 0, 0, 0, 0, 0, 0, 0, 0, 0, 0, 0, 0, 0, 0, 0, 0, 0, 0, 0],
  [0, 0, 4, 0, 0, 4, 0, 0, 0, 0, (-4), (-4), (-4), 0, 0, 0, 0, 0, 0, 0, 0, 0, 0, 0, 0, 0, 0, 0],
  [0, 0, 0, 0, 0, 0, 0, 0, 0, 0, 0, 0, 0, 0, 0, 10, 0, 0, 0, 0, 0, 0, 10, 0, 0, 0, 0, 0, 0, 10, 0, 0, 0, 0, 0, 0, 10, 0, 0, 0, 0, 0, 0, 10, 0, 0, 0, 0, 0, 0, 10, 0, 0, 0, 0, 0, 0, 10, 0, 0, 0, 0, 0, 0, 10, 0, 0, 0, 0, 0, 0, 0, 0, 0, 0, 0, 0, 0, 0, 0, 0, 0, 0, 0, 0, 0, 0, 0, 0, 0, 0, 0, 0, 0, 0, 0, 0, 0, 0, 0, 0, 0, 0, 0, 0, 0, 0, 0, 0, 0, 0, 0, 0, 0, 0, 0, 0, 0, 0, 0, 0, 0, 0, 0, 0, 0, 0, 0, 0, 0, 0, 0, 0, 0, 0, 0, 0, 0, 0, 0, 0, 0, 0, 0, 0, 0, 0, 0, 0, 0, 0, 0, 0, 0, 0, 0, 0, 0, 0, 0, 0, 0, 0, 0, 0, 0, 0, 0, 0, 0, 0, 0, 0, 0, 0, 0, 0, 0, 0, 0, 0, 0, 0, 0, 0, 0, 0, 0, 0, 0, 0, 0, 0, 0, 0, 0, 0, 0, 0, 0, 0, 0, 0, 0, 0, 0, 0, 0, 0, 0, 0, 0, 0, 0, 0, 0, 0, 0, 0, 0, 0, 0, 0, 0, 0, 0, 0, 0, 0, 0, 0, 0, 0, 0, 0, 0, 0, 0, 0, 0, 0, 0, 0, 0, 0, 0, 0, 0, 0, 0, 0, 0, 0, 0, 0, 0, 0, 0, 0, 0, 0, 0, 0, 0, 0, 0, 0, 0, 0, 0, 0, 0, 0, 0, 0, 0, 0, 0, 0, 0, 0, 0, 0, 0, 0, 0, 0, 0, 0, 0, 0, 0, 0, 0],
  [0, 0],
  [0, 0, 0, 0, 0, 0, 0, 0, 0, 0, 0, 0, 0, 0, 0, 10, 0, 0, 0, 0, 0, 0, 10, 0, 0, 0, 0, 0, 0, 10, 0, 0, 0, 0, 0, 0, 10, 0, 0, 0, 0, 0, 0, 10, 0, 0, 0, 0, 0, 0, 10, 0, 0, 0, 0, 0, 0, 10, 0, 0, 0, 0, 0, 0, 10, 0, 0, 0, 0, 0, 0, 0, 0, 0, 0, 0, 0, 0, 0, 0, 0, 0, 0, 0, 0, 0, 0, 0, 0, 0, 0, 0, 0, 0, 0, 0, 0, 0],
  [0, 0, 0, 0, 0, 0, 0, 0, 0, 0, 0, 0, 0, 0, 0, 0, 0, 0, 0, 0, 0, 0, 0, 0, 0, 0, 0, 0, 0, 0, 0, 0, 0, 0, 0, 0, 0, 0, 0, 0, 0, 0, 0, 0, 0, 0, 0, 0, 0, 0, 0, 0, 0, 0, 0, 0, 0, 0, 0, 0, 0, 0, 0, 0, 0, 0, 0, 0, 0, 0, 0, 0, 0, 0, 0, 0, 0, 0, 0, 0, 0, 0, 0, 0, 0, 0, 0, 0, 0, 0, 0, 0, 0, 0, 0, 0, 0, 0, 0, 0, 0, 0, 0, 0, 0, 0, 0, 0, 0, 0, 0, 0, 0, 0, 0, 0, 0, 0, 0, 0, 0, 0, 0, 0, 0, 0, 0, 0, 0, 0, 0, 0, 0, 0, 0, 0, 0, 0, 0, 0, 0, 0, 0, 0, 0, 0, 0, 0, 0, 0, 0, 0, 0, 0, 0, 0, 0, 0, 0, 0],
  [0, 0, 0, 0],
  [(-4), (-4), (-4), (-4)],
  [0, 0, 0, 0],
  [0, 0, 0, 0, 0, 0, 0, 0, 0, 0, 0, 0, 0, 0, 0, 0, 0, 0, 0, 0, 0, 0, 0, 0, 0, 0, 0, 0, 0, 0, 0, 0, 0, 0, 0, 0, 0, 0, 0, 0, 0, 0, 0, 0, 0, 0, 0, 0, 0, 0, 0, 0, 0, 0, 0, 0, 0, 0, 0, 0, 0, 0, 0, 0, 0, 0, 0, 0, 0, 0, 0, 0, 0, 0, 0, 0, 0, 0, 0, 0, 0, 0, 0, 0, 0, 0, 0, 0, 0, 0, 0, 0, 0, 0, 0, 0, 0, 0, 0, 0, 0, 0, 0, 0, 0, 0, 0, 0, 0, 0, 0, 0, 0, 0, 0, 0, 0, 0, 0, 0, 0, 0, 0, 0, 0, 0, 0, 0, 0, 0, 0, 0, 0, 0, 0, 0, 0, 0, 0, 0, 0, 0, 0, 0, 0, 0, 0, 0, 0, 0, 0, 0, 0, 0, 0, 0, 0, 0, 0, 0],
  [0, 0, 0, 0, 0, 0, 0, 0]]
def zg_0 : G := fun r k => (zg_0L.getD r []).getD k 0
set_option maxRecDepth 100000 in
theorem zv_mk : zv_h0 = mk zg_0 := zm_eqh_s _ _ (by decide +kernel)
theorem zd_le {a b v : Int} (h : decide (a ≤ v ∧ v ≤ b) = true) : a ≤ v ∧ v ≤ b := of_decide_eq_true h
def stB (k : Nat) (v : Int) : Bool :=
  if k = 8 ∨ k = 65 then decide (0 ≤ v ∧ v ≤ 8)
  else if 9 ≤ k ∧ k < 65 then (match (k - 9) % 7 with | 0 => decide (0 ≤ v ∧ v ≤ 7) | 1 => decide (0 ≤ v ∧ v ≤ 3) | _ => true)
  else if 66 ≤ k then (match (k - 66) % 4 with | 0 => decide (0 ≤ v ∧ v ≤ 3) | 2 => decide (0 ≤ v ∧ v ≤ 7) | _ => true)
  else true
theorem stB_s {k : Nat} {v : Int} (h : stB k v = true) : stP k v := by
  unfold stB at h
  unfold stP
  by_cases h1 : k = 8 ∨ k = 65
  · rw [if_pos h1] at h ⊢
    exact zd_le h
  · rw [if_neg h1] at h ⊢
    by_cases h2 : 9 ≤ k ∧ k < 65
    · rw [if_pos h2] at h ⊢
      generalize (k - 9) % 7 = q at h ⊢
      match q, h with
      | 0, h => exact zd_le h
      | 1, h => exact zd_le h
      | q + 2, _ => trivial
    · rw [if_neg h2] at h ⊢
      by_cases h3 : 66 ≤ k
      · rw [if_pos h3] at h ⊢
        generalize (k - 66) % 4 = q at h ⊢
        match q, h with
        | 0, h => exact zd_le h
        | 1, _ => trivial
        | 2, h => exact zd_le h
        | q + 3, _ => trivial
      · rw [if_neg h3]
        trivial
def bdB (c r k : Nat) (v : Int) : Bool := match c with
  | 0 => (match k with | 0 => decide (0 ≤ v ∧ v ≤ 255) | 3 => decide (0 ≤ v ∧ v ≤ 8) | _ => true)
  | 1 => (match k with | 1 => decide (0 ≤ v ∧ v ≤ 3) | 3 => decide (0 ≤ v ∧ v ≤ 5) | _ => true)
  | 2 => (match k with | 0 => decide (0 ≤ v ∧ v ≤ 8) | 1 => decide (0 ≤ v ∧ v ≤ 4) | 2 => decide (0 ≤ v ∧ v ≤ 8) | 3 => decide (0 ≤ v ∧ v ≤ 8) | _ => true)
  | 4 => (match k with | 1 => decide (0 ≤ v ∧ v ≤ 160) | 9 => decide (0 ≤ v ∧ v ≤ 160) | 10 => decide (0 ≤ v ∧ v ≤ 160) | _ => true)
  | 5 => (match k with | 0 => decide (-1 ≤ v ∧ v ≤ 40) | _ => true)
  | 6 => (match k with | 0 => decide (0 ≤ v ∧ v ≤ 3) | 3 => decide (0 ≤ v ∧ v ≤ 1) | _ => true)
  | 8 => (match k with | 2 => decide (0 ≤ v ∧ v ≤ 8) | 3 => decide (0 ≤ v ∧ v ≤ 4) | 5 => decide (0 ≤ v ∧ v ≤ 8) | 6 => decide (0 ≤ v ∧ v ≤ 4) | 14 => decide (0 ≤ v ∧ v ≤ 160) | 15 => decide (0 ≤ v ∧ v ≤ 160) | 16 => decide (0 ≤ v ∧ v ≤ 160) | 19 => decide (0 ≤ v ∧ v ≤ 6) | _ => true)
  | 9 => (match r with | 114 => stB (k % 98) v | 116 => stB (k % 98) v | 120 => decide (0 ≤ v ∧ v ≤ 40) | _ => true)
  | _ => true
theorem bdB_s {c r k : Nat} {v : Int} (h : bdB c r k v = true) : bdP c r k v := by
  match c, h with
  | 0, h =>
    match k, h with
    | 0, h => exact zd_le h
    | 1, _ => trivial
    | 2, _ => trivial
    | 3, h => exact zd_le h
    | k + 4, _ => trivial
  | 1, h =>
    match k, h with
    | 0, _ => trivial
    | 1, h => exact zd_le h
    | 2, _ => trivial
    | 3, h => exact zd_le h
    | k + 4, _ => trivial
  | 2, h =>
    match k, h with
    | 0, h => exact zd_le h
    | 1, h => exact zd_le h
    | 2, h => exact zd_le h
    | 3, h => exact zd_le h
    | k + 4, _ => trivial
  | 3, _ => trivial
  | 4, h =>
    match k, h with
    | 0, _ => trivial
    | 1, h => exact zd_le h
    | 2, _ => trivial
    | 3, _ => trivial
    | 4, _ => trivial
    | 5, _ => trivial
    | 6, _ => trivial
    | 7, _ => trivial
    | 8, _ => trivial
    | 9, h => exact zd_le h
    | 10, h => exact zd_le h
    | k + 11, _ => trivial
  | 5, h =>
    match k, h with
    | 0, h => exact zd_le h
    | k + 1, _ => trivial
  | 6, h =>
    match k, h with
    | 0, h => exact zd_le h
    | 1, _ => trivial
    | 2, _ => trivial
    | 3, h => exact zd_le h
    | k + 4, _ => trivial
  | 7, _ => trivial
  | 8, h =>
    match k, h with
    | 0, _ => trivial
    | 1, _ => trivial
    | 2, h => exact zd_le h
    | 3, h => exact zd_le h
    | 4, _ => trivial
    | 5, h => exact zd_le h
    | 6, h => exact zd_le h
    | 7, _ => trivial
    | 8, _ => trivial
    | 9, _ => trivial
    | 10, _ => trivial
    | 11, _ => trivial
    | 12, _ => trivial
    | 13, _ => trivial
    | 14, h => exact zd_le h
    | 15, h => exact zd_le h
    | 16, h => exact zd_le h
    | 17, _ => trivial
    | 18, _ => trivial
    | 19, h => exact zd_le h
    | k + 20, _ => trivial
  | 9, h =>
    by_cases h1 : r = 114
    · subst h1; exact stB_s (k := k % 98) h
    · by_cases h2 : r = 116
      · subst h2; exact stB_s (k := k % 98) h
      · by_cases h3 : r = 120
        · subst h3; exact zd_le h
        · show (match (generalizing := false) r with | 114 => stP (k % 98) v | 116 => stP (k % 98) v | 120 => 0 ≤ v ∧ v ≤ 40 | _ => True)
          split
          · exact absurd rfl h1
          · exact absurd rfl h2
          · exact absurd rfl h3
          · trivial
  | c + 10, _ => trivial
set_option maxRecDepth 100000 in
theorem zg_0b : (List.range 123).all (fun r => (List.range (zg_0L.getD r []).length).all (fun k => bdB (zg_cl r) r k (zg_0 r k).toInt)) = true := by decide +kernel
theorem bdB_0 (c r k : Nat) : bdP c r k 0 := by
  unfold bdP
  split
  all_goals first
    | trivial
    | (split; all_goals first | exact stP_0 | omega | trivial)
theorem Inv_0 : Inv zg_0 := by
  intro r k
  by_cases h1 : k < (zg_0L.getD r []).length
  · have hr : r < 123 := by
      have := zg_getD (l := zg_0L) (r := r) (d := []) (x := zg_0L.getD r []) rfl (fun q => by rw [← q] at h1; exact absurd h1 (by simp))
      exact this
    exact bdB_s (List.all_eq_true.mp (List.all_eq_true.mp zg_0b r (List.mem_range.mpr hr)) k (List.mem_range.mpr h1))
  · have : zg_0 r k = 0 := by
      unfold zg_0
      rw [List.getD_eq_getElem?_getD (l := zg_0L.getD r []), List.getElem?_eq_none (by omega)]
      rfl
    rw [this]
    exact bdB_0 _ _ _
theorem zg_fs_len (f f1 : Nat → Int32) (r c : Nat) : (zg_fs f r c).length = (zg_fs f1 r c).length := by
  unfold zg_fs
  split <;> rfl
theorem mk_hsz (g g1 : G) : zm_hsz (mk g) = zm_hsz (mk g1) := by
  unfold zm_hsz mk
  rw [List.map_map, List.map_map]
  congr 2
  funext r
  show zm_csz (zg_cell (g r) r) = zm_csz (zg_cell (g1 r) r)
  unfold zg_cell
  split
  · simp [zm_csz]
  · split
    · rfl
    · exact zg_fs_len _ _ _ _
theorem mk_hsz0 : zm_hsz (mk zg_0) ≤ 7302250 := by decide +kernel
