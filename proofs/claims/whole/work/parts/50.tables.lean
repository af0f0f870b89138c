/-! ===== the claim's tables (printed by program: gen4.py) ===== -/
def jw_ow (n : Nat) : String := (["PickDesk", "java/lang/Object", "PickDesk$Text", "java/lang/StringBuilder", "java/lang/AbstractStringBuilder", "java/lang/StringUTF16", "PickDesk$ValueReader", "PickDesk$QueryReader", "PickDesk$Value", "PickDesk$Picker", "PickDesk$Words", "jdk/internal/util/ArraysSupport", "java/lang/Math", "java/util/Arrays", "java/lang/StringLatin1", "java/lang/String", "jdk/internal/util/Preconditions", "java/lang/Integer", "java/lang/Throwable", "java/lang/IllegalArgumentException", "java/lang/RuntimeException", "java/lang/Exception", "PickDeskLaw", "java/lang/IllegalStateException", "PickDesk$Query", "java/util/ArrayList", "java/util/AbstractList", "java/util/AbstractCollection", "PickDesk$Stage", "PickDesk$Word", "PickDesk$Step", "PickDesk$Side", "java/util/Objects", "java/lang/Enum", "PickDeskModel"] : List String).getD n ""
def jw_F0 : u_T := fun k => match k with
  | 0 => ("PickDesk", "text", "LPickDesk$Text;", true)
  | 1 => ("PickDesk", "valueReader", "LPickDesk$ValueReader;", true)
  | 2 => ("PickDesk", "queryReader", "LPickDesk$QueryReader;", true)
  | 3 => ("PickDesk", "picker", "LPickDesk$Picker;", true)
  | 4 => ("PickDesk", "queries", "[LPickDesk$Query;", true)
  | 5 => ("PickDesk", "queryCount", "I", false)
  | 6 => ("PickDesk", "document", "LPickDesk$Value;", false)
  | 7 => ("PickDesk", "result", "LPickDesk$Value;", false)
  | _ => ("PickDesk", "resultText", "Ljava/lang/StringBuilder;", true)
def jw_c0 : vw_C := ("PickDesk", jw_F0, 9)
def jw_F1 : u_T := fun k => match k with
  | 0 => ("PickDesk$Text", "letters", "[C", true)
  | 1 => ("PickDesk$Text", "length", "I", false)
  | 2 => ("PickDesk$Text", "place", "I", false)
  | 3 => ("PickDesk$Text", "wrong", "I", false)
  | _ => ("PickDesk$Text", "scratch", "Ljava/lang/StringBuilder;", true)
def jw_c1 : vw_C := ("PickDesk$Text", jw_F1, 5)
def jw_F2 : u_T := fun k => match k with
  | 0 => ("java/lang/AbstractStringBuilder", "value", "[B", false)
  | 1 => ("java/lang/AbstractStringBuilder", "coder", "B", false)
  | 2 => ("java/lang/AbstractStringBuilder", "maybeLatin1", "Z", false)
  | _ => ("java/lang/AbstractStringBuilder", "count", "I", false)
def jw_c2 : vw_C := ("java/lang/StringBuilder", jw_F2, 4)
def jw_F3 : u_T := fun k => match k with
  | _ => ("PickDesk$ValueReader", "text", "LPickDesk$Text;", true)
def jw_c3 : vw_C := ("PickDesk$ValueReader", jw_F3, 1)
def jw_F4 : u_T := fun k => match k with
  | 0 => ("PickDesk$QueryReader", "text", "LPickDesk$Text;", true)
  | _ => ("PickDesk$QueryReader", "steps", "I", false)
def jw_c4 : vw_C := ("PickDesk$QueryReader", jw_F4, 2)
def jw_F5 : u_T := fun k => match k with
  | 0 => ("PickDesk$Value", "kind", "I", true)
  | 1 => ("PickDesk$Value", "number", "I", true)
  | 2 => ("PickDesk$Value", "text", "Ljava/lang/String;", true)
  | 3 => ("PickDesk$Value", "keys", "[LPickDesk$Value;", false)
  | 4 => ("PickDesk$Value", "items", "[LPickDesk$Value;", false)
  | _ => ("PickDesk$Value", "size", "I", false)
def jw_c5 : vw_C := ("PickDesk$Value", jw_F5, 6)
def jw_F6 : u_T := fun k => match k with
  | 0 => ("PickDesk$Picker", "none", "LPickDesk$Value;", true)
  | 1 => ("PickDesk$Picker", "words", "LPickDesk$Words;", true)
  | _ => ("PickDesk$Picker", "failure", "I", false)
def jw_c6 : vw_C := ("PickDesk$Picker", jw_F6, 3)
def jw_F7 : u_T := fun k => match k with
  | _ => ("PickDesk$Words", "none", "LPickDesk$Value;", true)
def jw_c7 : vw_C := ("PickDesk$Words", jw_F7, 1)
def jw_F8 : u_T := fun _ => ("", "", "", false)
def jw_c8 : vw_C := ("java/lang/IllegalArgumentException", jw_F8, 0)
def jw_F9 : u_T := fun k => match k with
  | 0 => ("java/lang/String", "value", "[B", true)
  | 1 => ("java/lang/String", "coder", "B", true)
  | 2 => ("java/lang/String", "hash", "I", false)
  | _ => ("java/lang/String", "hashIsZero", "Z", false)
def jw_c9 : vw_C := ("java/lang/String", jw_F9, 4)
def jw_F10 : u_T := fun _ => ("", "", "", false)
def jw_c10 : vw_C := ("java/lang/IllegalStateException", jw_F10, 0)
def jw_F11 : u_T := fun k => match k with
  | _ => ("PickDesk$Query", "stages", "Ljava/util/ArrayList;", true)
def jw_c11 : vw_C := ("PickDesk$Query", jw_F11, 1)
def jw_F12 : u_T := fun k => match k with
  | 0 => ("java/util/ArrayList", "elementData", "[Ljava/lang/Object;", false)
  | 1 => ("java/util/ArrayList", "size", "I", false)
  | _ => ("java/util/AbstractList", "modCount", "I", false)
def jw_c12 : vw_C := ("java/util/ArrayList", jw_F12, 3)
def jw_F13 : u_T := fun k => match k with
  | 0 => ("PickDesk$Stage", "word", "LPickDesk$Word;", false)
  | 1 => ("PickDesk$Stage", "key", "Ljava/lang/String;", false)
  | _ => ("PickDesk$Stage", "steps", "Ljava/util/ArrayList;", true)
def jw_c13 : vw_C := ("PickDesk$Stage", jw_F13, 3)
def jw_F14 : u_T := fun k => match k with
  | 0 => ("PickDesk$Step", "kind", "I", true)
  | 1 => ("PickDesk$Step", "key", "Ljava/lang/String;", false)
  | 2 => ("PickDesk$Step", "from", "I", false)
  | 3 => ("PickDesk$Step", "end", "I", false)
  | 4 => ("PickDesk$Step", "by", "I", false)
  | 5 => ("PickDesk$Step", "left", "LPickDesk$Side;", false)
  | 6 => ("PickDesk$Step", "sign", "I", false)
  | _ => ("PickDesk$Step", "right", "LPickDesk$Side;", false)
def jw_c14 : vw_C := ("PickDesk$Step", jw_F14, 8)
def jw_F15 : u_T := fun k => match k with
  | 0 => ("PickDesk$Side", "said", "LPickDesk$Value;", true)
  | 1 => ("PickDesk$Side", "keys", "[LPickDesk$Value;", true)
  | _ => ("PickDesk$Side", "size", "I", false)
def jw_c15 : vw_C := ("PickDesk$Side", jw_F15, 3)
def jw_F16 : u_T := fun k => match k with
  | 0 => ("PickDeskModel", "threw", "I", false)
  | 1 => ("PickDeskModel", "text", "[I", true)
  | 2 => ("PickDeskModel", "size", "I", false)
  | 3 => ("PickDeskModel", "kind", "[I", true)
  | 4 => ("PickDeskModel", "number", "[I", true)
  | 5 => ("PickDeskModel", "chars", "[J", true)
  | 6 => ("PickDeskModel", "head", "[I", true)
  | 7 => ("PickDeskModel", "count", "[I", true)
  | 8 => ("PickDeskModel", "cell", "[I", true)
  | 9 => ("PickDeskModel", "key", "[J", true)
  | 10 => ("PickDeskModel", "follow", "[I", true)
  | 11 => ("PickDeskModel", "nodes", "[I", true)
  | 12 => ("PickDeskModel", "cells", "[I", true)
  | 13 => ("PickDeskModel", "document", "I", false)
  | 14 => ("PickDeskModel", "result", "I", false)
  | 15 => ("PickDeskModel", "queries", "I", false)
  | 16 => ("PickDeskModel", "items", "[I", true)
  | 17 => ("PickDeskModel", "item", "[I", true)
  | 18 => ("PickDeskModel", "word", "[J", true)
  | 19 => ("PickDeskModel", "place", "[I", true)
  | 20 => ("PickDeskModel", "said", "[I", true)
  | 21 => ("PickDeskModel", "numbers", "[I", true)
  | 22 => ("PickDeskModel", "sign", "[I", true)
  | 23 => ("PickDeskModel", "side", "[I", true)
  | 24 => ("PickDeskModel", "sideKeys", "[I", true)
  | 25 => ("PickDeskModel", "path", "[J", true)
  | 26 => ("PickDeskModel", "sideNumber", "[I", true)
  | 27 => ("PickDeskModel", "sideText", "[J", true)
  | 28 => ("PickDeskModel", "at", "I", false)
  | 29 => ("PickDeskModel", "error", "I", false)
  | 30 => ("PickDeskModel", "steps", "I", false)
  | 31 => ("PickDeskModel", "letters", "J", false)
  | 32 => ("PickDeskModel", "value", "I", false)
  | 33 => ("PickDeskModel", "open", "[I", true)
  | 34 => ("PickDeskModel", "last", "[I", true)
  | 35 => ("PickDeskModel", "named", "[J", true)
  | 36 => ("PickDeskModel", "slots", "I", false)
  | 37 => ("PickDeskModel", "slot", "[I", true)
  | 38 => ("PickDeskModel", "from", "[I", true)
  | 39 => ("PickDeskModel", "state", "[I", true)
  | 40 => ("PickDeskModel", "level", "[I", true)
  | 41 => ("PickDeskModel", "levels", "I", false)
  | 42 => ("PickDeskModel", "failure", "I", false)
  | 43 => ("PickDeskModel", "pile", "[I", true)
  | 44 => ("PickDeskModel", "other", "[I", true)
  | 45 => ("PickDeskModel", "written", "I", false)
  | _ => ("PickDeskModel", "paper", "[I", true)
def jw_c16 : vw_C := ("PickDeskModel", jw_F16, 47)
def jw_F17 : u_T := fun k => match k with
  | 0 => ("PickDesk$Word", "spelling", "Ljava/lang/String;", true)
  | 1 => ("PickDesk$Word", "takes", "I", true)
  | _ => ("java/lang/Enum", "ordinal", "I", true)
def jw_c17 : vw_C := ("PickDesk$Word", jw_F17, 3)
def jw_cl : List vw_C := [jw_c0, jw_c1, jw_c2, jw_c3, jw_c4, jw_c5, jw_c6, jw_c7, jw_c8, jw_c9, jw_c10, jw_c11, jw_c12, jw_c13, jw_c14, jw_c15, jw_c16, jw_c17]
def jw_fldT : List (List (Nat × Nat × (List (Nat × Nat)))) := [[(0, 10, [(0, 0)]), (0, 21, [(0, 1)]), (0, 28, [(0, 2)]), (0, 43, [(0, 3)]), (0, 49, [(0, 4)]), (0, 53, [(0, 5)]), (0, 57, [(0, 6)]), (0, 61, [(0, 7)]), (0, 67, [(0, 8)]), (0, 89, [(1, 1)]), (0, 115, [(6, 2)]), (0, 118, [(5, 0)]), (0, 121, [(5, 1)])],
  [],
  [(2, 9, [(1, 0)]), (2, 15, [(1, 1)]), (2, 19, [(1, 2)]), (2, 22, [(1, 3)]), (2, 28, [(1, 4)])],
  [],
  [(4, 15, [(2, 0)]), (4, 22, [(2, 1)]), (4, 73, [(2, 2)]), (4, 79, [(2, 3)])],
  [],
  [(6, 9, [(3, 0)])],
  [(7, 9, [(4, 0)]), (7, 15, [(4, 1)]), (7, 22, [(11, 0)]), (7, 60, [(13, 0)]), (7, 74, [(1, 2)]), (7, 88, [(13, 2)]), (7, 105, [(13, 1)])],
  [(8, 9, [(5, 0)]), (8, 15, [(5, 1)]), (8, 18, [(5, 2)]), (8, 22, [(5, 3)]), (8, 26, [(5, 4)]), (8, 29, [(5, 5)])],
  [(9, 9, [(6, 0)]), (9, 20, [(6, 1)]), (9, 24, [(6, 2)]), (9, 28, [(11, 0)]), (9, 46, [(13, 0)]), (9, 54, [(13, 1)]), (9, 65, [(13, 2)]), (9, 70, [(14, 0)]), (9, 77, [(14, 1)]), (9, 84, [(14, 2)]), (9, 91, [(5, 0)]), (9, 99, [(5, 5)]), (9, 109, [(14, 3)]), (9, 112, [(14, 4)]), (9, 115, [(5, 4)]), (9, 129, [(14, 5)]), (9, 137, [(14, 6)]), (9, 144, [(14, 7)]), (9, 151, [(5, 1)]), (9, 154, [(15, 0)]), (9, 159, [(15, 2)]), (9, 160, [(15, 1)]), (9, 163, [(5, 2)])],
  [(10, 9, [(7, 0)]), (10, 15, [(5, 0)]), (10, 44, [(5, 5)]), (10, 47, [(5, 4)]), (10, 82, [(5, 3)]), (10, 92, [(5, 2)]), (10, 149, [(5, 1)])],
  [],
  [],
  [],
  [],
  [(15, 9, [(9, 0)]), (15, 15, [(9, 1)]), (15, 1048, [(2, 2)])],
  [],
  [],
  [],
  [],
  [],
  [],
  [],
  [],
  [(24, 10, [(11, 0)])],
  [(25, 9, [(12, 0)]), (25, 48, [(12, 1)]), (25, 63, [(12, 2)])],
  [(26, 7, [(12, 2)])],
  [],
  [(28, 7, [(13, 0)]), (28, 15, [(13, 1)]), (28, 22, [(13, 2)])],
  [(29, 52, [(17, 0)]), (29, 56, [(17, 1)])],
  [(30, 9, [(14, 0)]), (30, 17, [(14, 1)]), (30, 21, [(14, 2)]), (30, 25, [(14, 3)]), (30, 28, [(14, 4)]), (30, 31, [(14, 5)]), (30, 35, [(14, 6)]), (30, 38, [(14, 7)])],
  [(31, 9, [(15, 0)]), (31, 17, [(15, 1)]), (31, 21, [(15, 2)])],
  [],
  [(33, 7, [(17, 2)])],
  [(34, 7, [(16, 1)]), (34, 13, [(16, 3)]), (34, 16, [(16, 4)]), (34, 19, [(16, 5)]), (34, 23, [(16, 6)]), (34, 26, [(16, 7)]), (34, 29, [(16, 8)]), (34, 32, [(16, 9)]), (34, 35, [(16, 10)]), (34, 38, [(16, 11)]), (34, 41, [(16, 12)]), (34, 44, [(16, 16)]), (34, 47, [(16, 17)]), (34, 50, [(16, 18)]), (34, 53, [(16, 19)]), (34, 56, [(16, 20)]), (34, 59, [(16, 21)]), (34, 62, [(16, 22)]), (34, 65, [(16, 23)]), (34, 68, [(16, 24)]), (34, 71, [(16, 25)]), (34, 74, [(16, 26)]), (34, 77, [(16, 27)]), (34, 80, [(16, 33)]), (34, 83, [(16, 34)]), (34, 86, [(16, 35)]), (34, 89, [(16, 37)]), (34, 92, [(16, 38)]), (34, 95, [(16, 39)]), (34, 98, [(16, 40)]), (34, 101, [(16, 43)]), (34, 104, [(16, 44)]), (34, 107, [(16, 46)]), (34, 114, [(16, 13)]), (34, 118, [(16, 14)]), (34, 121, [(16, 0)]), (34, 142, [(16, 2)]), (34, 145, [(16, 28)]), (34, 148, [(16, 29)]), (34, 158, [(16, 31)]), (34, 173, [(16, 32)]), (34, 219, [(16, 15)]), (34, 222, [(16, 30)]), (34, 264, [(16, 36)]), (34, 283, [(16, 41)]), (34, 317, [(16, 42)]), (34, 353, [(16, 45)])]]
theorem jw_fldT_i : jw_idx jw_fldT = true := by decide +kernel
def jw_nwT : List (List (Nat × Nat × Nat)) := [[(0, 7, 1), (0, 16, 3), (0, 25, 4), (0, 38, 6), (0, 47, 11), (0, 64, 2)],
  [],
  [(2, 25, 2)],
  [(3, 18, 9)],
  [],
  [],
  [],
  [(7, 19, 11), (7, 42, 13), (7, 150, 15)],
  [(8, 10, 5)],
  [(9, 15, 7), (9, 44, 13), (9, 68, 14)],
  [(10, 56, 9)],
  [],
  [],
  [(13, 45, 2)],
  [],
  [(15, 10, 9)],
  [],
  [],
  [],
  [],
  [],
  [],
  [(22, 8, 0), (22, 25, 16)],
  [],
  [(24, 7, 12)],
  [],
  [],
  [],
  [(28, 19, 12)],
  [],
  [(30, 10, 14)],
  [(31, 15, 5)],
  [],
  [],
  []]
theorem jw_nwT_i : jw_idx jw_nwT = true := by decide +kernel
def jw_anT : List (List (Nat × Nat × Nat)) := [[(0, 47, 5)],
  [],
  [],
  [],
  [],
  [],
  [],
  [(7, 19, 5)],
  [(8, 10, 4)],
  [],
  [],
  [],
  [],
  [(13, 2, 6)],
  [],
  [],
  [],
  [],
  [],
  [],
  [],
  [],
  [],
  [],
  [],
  [(25, 7, 6)],
  [],
  [],
  [],
  [],
  [],
  [(31, 15, 4)],
  [],
  [],
  []]
theorem jw_anT_i : jw_idx jw_anT = true := by decide +kernel
def jw_kcT : List (List (Nat × Nat × Value)) := [[],
  [],
  [],
  [],
  [(4, 39, .int 2147483647)],
  [(5, 20, .int 1073741823)],
  [],
  [(7, 133, .int 1000000), (7, 134, .int (-1000000))],
  [(8, 32, .ref 4294967305)],
  [],
  [(10, 152, .ref 4294967310), (10, 153, .ref 4294967311), (10, 155, .ref 4294967312), (10, 156, .ref 4294967313), (10, 157, .ref 4294967314), (10, 159, .ref 4294967315)],
  [(11, 200, .int 2147483639)],
  [],
  [(13, 48, .ref 4294967306), (13, 57, .ref 4294967307), (13, 59, .ref 4294967308), (13, 337, .ref 4294967309)],
  [],
  [(15, 7, .ref 4294967305)],
  [],
  [],
  [],
  [],
  [],
  [],
  [],
  [],
  [],
  [],
  [],
  [],
  [(28, 13, .ref 4294967305)],
  [(29, 70, .ref 4294967320), (29, 76, .ref 4294967321), (29, 79, .ref 4294967322), (29, 82, .ref 4294967316), (29, 85, .ref 4294967323), (29, 88, .ref 4294967317), (29, 91, .ref 4294967318), (29, 94, .ref 4294967319), (29, 97, .ref 4294967324)],
  [(30, 15, .ref 4294967305), (30, 24, .int 1000000)],
  [],
  [],
  [],
  [(34, 136, .long 127), (34, 359, .long 10), (34, 361, .long 48)]]
theorem jw_kcT_i : jw_idx jw_kcT = true := by decide +kernel
def jw_svT : List (List (Nat × Nat × Value)) := [[],
  [],
  [],
  [],
  [(4, 18, .int 1)],
  [(5, 44, .int 1), (5, 59, .int 0), (5, 63, .int 8), (5, 403, .ref 4294967347), (5, 407, .ref 4294967348)],
  [],
  [(7, 102, .ref 4294967299)],
  [],
  [],
  [(10, 27, .ref 4294967301), (10, 35, .ref 4294967299), (10, 38, .ref 4294967302), (10, 41, .ref 4294967303), (10, 65, .ref 4294967346)],
  [],
  [],
  [],
  [],
  [(15, 38, .int 1)],
  [],
  [(17, 83, .ref 4294967347), (17, 87, .ref 4294967348)],
  [],
  [],
  [],
  [],
  [],
  [],
  [],
  [(25, 39, .ref 4294967349)],
  [],
  [],
  [],
  [(29, 60, .ref 4294967345)],
  [],
  [],
  [],
  [],
  []]
theorem jw_svT_i : jw_idx jw_svT = true := by decide +kernel
def jw_cvT : List (List (Nat × Nat × (Nat × List (Nat × Nat)))) := [[(0, 71, (2, [(5, 13)])), (0, 78, (0, [(1, 118)])), (0, 85, (1, [(1, 120)])), (0, 92, (1, [(3, 57)])), (0, 95, (0, [(1, 104)])), (0, 99, (1, [(5, 105)])), (0, 103, (0, [(4, 123)])), (0, 107, (2, [(6, 158)])), (0, 111, (1, [(2, 66)])), (0, 124, (0, [(5, 108)])), (0, 127, (0, [(2, 77)])), (0, 129, (1, [(2, 110)]))],
  [],
  [(2, 32, (1, [(1, 62)])), (2, 36, (0, [(1, 58)])), (2, 40, (1, [(2, 66)])), (2, 47, (1, [(2, 14)])), (2, 51, (0, [(2, 77)])), (2, 54, (0, [(2, 73)]))],
  [],
  [(4, 32, (0, [(9, 50)])), (4, 40, (0, [(9, 51)])), (4, 83, (0, [(2, 23)])), (4, 100, (1, [(2, 16)])), (4, 104, (1, [(2, 17)])), (4, 195, (0, [(2, 25)])), (4, 204, (0, [(2, 48)])), (4, 208, (2, [(2, 52)])), (4, 397, (1, [(2, 53)])), (4, 399, (3, [(9, 54)]))],
  [],
  [(6, 15, (0, [(1, 58)])), (6, 25, (0, [(1, 60)])), (6, 35, (1, [(1, 64)])), (6, 38, (0, [(1, 65)])), (6, 46, (1, [(3, 92)])), (6, 49, (1, [(3, 97)])), (6, 52, (0, [(3, 103)])), (6, 59, (1, [(1, 96)])), (6, 66, (1, [(3, 57)])), (6, 69, (1, [(5, 94)])), (6, 73, (0, [(1, 98)])), (6, 76, (2, [(5, 100)]))],
  [(7, 26, (0, [(4, 128)])), (7, 30, (1, [(12, 136)])), (7, 36, (1, [(1, 64)])), (7, 45, (0, [(1, 58)])), (7, 52, (1, [(4, 130)])), (7, 56, (1, [(1, 96)])), (7, 64, (1, [(4, 142)])), (7, 67, (1, [(4, 155)])), (7, 70, (1, [(1, 62)])), (7, 77, (0, [(1, 98)])), (7, 81, (3, [(4, 131)])), (7, 85, (1, [(4, 133)])), (7, 113, (0, [(4, 144)])), (7, 117, (0, [(4, 151)])), (7, 120, (0, [(1, 60)])), (7, 130, (0, [(4, 153)])), (7, 139, (0, [(4, 145)])), (7, 143, (0, [(4, 149)])), (7, 161, (0, [(1, 65)])), (7, 168, (1, [(15, 147)])), (7, 170, (0, [(15, 148)]))],
  [(8, 41, (1, [(5, 94)])), (8, 45, (1, [(9, 101)])), (8, 61, (0, [(9, 50)])), (8, 65, (0, [(5, 108)])), (8, 68, (1, [(5, 105)])), (8, 72, (2, [(5, 165)])), (8, 76, (2, [(5, 173)])), (8, 91, (1, [(9, 187)])), (8, 95, (1, [(2, 14)])), (8, 101, (1, [(2, 37)])), (8, 104, (1, [(2, 46)])), (8, 107, (2, [(5, 55)])), (8, 111, (2, [(5, 13)]))],
  [(9, 34, (0, [(12, 159)])), (9, 40, (1, [(12, 160)])), (9, 50, (2, [(6, 163)])), (9, 58, (3, [(7, 175)])), (9, 61, (3, [(7, 180)])), (9, 73, (4, [(6, 164)])), (9, 78, (2, [(5, 165)])), (9, 87, (2, [(5, 166)])), (9, 92, (0, [(14, 167)])), (9, 95, (1, [(6, 168)])), (9, 105, (2, [(14, 169)])), (9, 119, (2, [(6, 170)])), (9, 123, (1, [(5, 174)])), (9, 126, (1, [(5, 94)])), (9, 133, (2, [(6, 171)])), (9, 140, (0, [(5, 172)])), (9, 147, (2, [(5, 173)]))],
  [(10, 21, (1, [(17, 176)])), (10, 31, (3, [(7, 177)])), (10, 51, (2, [(7, 178)])), (10, 55, (0, [(9, 179)])), (10, 61, (2, [(5, 165)])), (10, 71, (0, [(17, 181)])), (10, 75, (0, [(5, 108)])), (10, 85, (2, [(7, 182)])), (10, 89, (2, [(7, 183)])), (10, 96, (1, [(7, 192)])), (10, 104, (1, [(7, 203)])), (10, 108, (1, [(7, 204)])), (10, 112, (2, [(7, 205)])), (10, 116, (1, [(7, 206)])), (10, 123, (1, [(5, 94)])), (10, 127, (3, [(7, 184)])), (10, 131, (2, [(5, 191)])), (10, 135, (1, [(5, 185)])), (10, 138, (0, [(9, 193)])), (10, 142, (1, [(9, 187)]))],
  [],
  [],
  [(13, 50, (1, [(2, 46)])), (13, 54, (1, [(2, 37)])), (13, 61, (0, [(2, 73)]))],
  [],
  [(15, 335, (0, [(9, 51)])), (15, 492, (0, [(9, 188)])), (15, 549, (0, [(2, 77)])), (15, 552, (0, [(2, 76)])), (15, 1047, (0, [(2, 23)]))],
  [],
  [],
  [],
  [],
  [],
  [],
  [(22, 7, (1, [(0, 114)])), (22, 17, (0, [(0, 122)])), (22, 21, (1, [(0, 157)])), (22, 33, (1, [(16, 210)])), (22, 34, (0, [(16, 209)])), (22, 37, (0, [(0, 56)])), (22, 40, (0, [(16, 211)])), (22, 44, (0, [(16, 232)])), (22, 47, (1, [(16, 245)])), (22, 48, (0, [(0, 106)])), (22, 51, (0, [(16, 273)])), (22, 52, (1, [(0, 107)])), (22, 55, (1, [(16, 274)])), (22, 56, (1, [(0, 109)])), (22, 59, (1, [(16, 280)])), (22, 60, (1, [(0, 112)])), (22, 63, (1, [(16, 281)]))],
  [],
  [],
  [(25, 69, (1, [(12, 139)])), (25, 123, (1, [(12, 162)])), (25, 129, (0, [(12, 138)])), (25, 131, (3, [(12, 137)]))],
  [],
  [],
  [],
  [(29, 63, (1, [(9, 101)]))],
  [],
  [],
  [],
  [],
  [(34, 110, (4, [(16, 208)])), (34, 124, (1, [(16, 213)])), (34, 128, (5, [(16, 229)])), (34, 132, (2, [(16, 256)])), (34, 151, (0, [(16, 215)])), (34, 155, (1, [(16, 216)])), (34, 170, (1, [(16, 226)])), (34, 179, (1, [(16, 221)])), (34, 182, (0, [(16, 223)])), (34, 186, (0, [(16, 225)])), (34, 189, (0, [(16, 227)])), (34, 192, (0, [(16, 218)])), (34, 195, (1, [(16, 217)])), (34, 198, (0, [(16, 222)])), (34, 201, (2, [(16, 228)])), (34, 205, (0, [(16, 212)])), (34, 208, (0, [(16, 214)])), (34, 211, (2, [(16, 230)])), (34, 215, (1, [(16, 231)])), (34, 233, (3, [(16, 237)])), (34, 237, (1, [(16, 234)])), (34, 240, (1, [(16, 238)])), (34, 243, (0, [(16, 239)])), (34, 246, (1, [(16, 240)])), (34, 249, (1, [(16, 243)])), (34, 252, (1, [(16, 241)])), (34, 255, (1, [(16, 242)])), (34, 258, (0, [(16, 233)])), (34, 261, (0, [(16, 244)])), (34, 267, (2, [(16, 271)])), (34, 270, (1, [(16, 263)])), (34, 273, (2, [(16, 272)])), (34, 277, (2, [(16, 267)])), (34, 280, (2, [(16, 261)])), (34, 286, (3, [(16, 269)])), (34, 290, (2, [(16, 270)])), (34, 293, (0, [(16, 262)])), (34, 296, (0, [(16, 264)])), (34, 299, (1, [(16, 265)])), (34, 302, (2, [(16, 266)])), (34, 305, (2, [(16, 268)])), (34, 308, (2, [(16, 258)])), (34, 311, (1, [(16, 252)])), (34, 323, (1, [(16, 248)])), (34, 326, (2, [(16, 251)])), (34, 330, (1, [(16, 253)])), (34, 333, (1, [(16, 254)])), (34, 336, (2, [(16, 255)])), (34, 339, (2, [(16, 257)])), (34, 342, (2, [(16, 259)])), (34, 345, (3, [(16, 246)])), (34, 349, (3, [(16, 260)])), (34, 356, (1, [(16, 277)])), (34, 363, (1, [(16, 278)])), (34, 366, (1, [(16, 279)])), (34, 370, (1, [(16, 276)])), (34, 373, (0, [(16, 275)]))]]
theorem jw_cvT_i : jw_idx jw_cvT = true := by decide +kernel
def jw_cpT : List (List (Nat × Nat × (Nat × Nat))) := [[(0, 9, (0, 2)), (0, 18, (1, 7)), (0, 27, (1, 8)), (0, 40, (1, 11)), (0, 66, (0, 3)), (0, 77, (0, 115)), (0, 84, (0, 119))],
  [],
  [(2, 27, (0, 3))],
  [(3, 1, (1, 4)), (3, 29, (1, 47)), (3, 50, (1, 15)), (3, 53, (1, 38)), (3, 137, (1, 74)), (3, 329, (1, 111)), (3, 333, (1, 67)), (3, 343, (0, 78))],
  [],
  [],
  [],
  [(7, 21, (0, 124)), (7, 44, (0, 129)), (7, 158, (1, 146))],
  [(8, 34, (4, 10))],
  [(9, 17, (1, 12))],
  [(10, 146, (1, 198))],
  [],
  [],
  [(13, 47, (0, 3)), (13, 65, (1, 82))],
  [],
  [(15, 27, (4, 199)), (15, 489, (2, 75))],
  [],
  [],
  [],
  [(19, 1, (0, 116)), (19, 7, (1, 83))],
  [(20, 1, (0, 117)), (20, 7, (1, 84))],
  [(21, 1, (0, 71)), (21, 7, (1, 85))],
  [(22, 24, (0, 0)), (22, 27, (0, 207))],
  [(23, 1, (0, 116))],
  [(24, 9, (0, 125))],
  [(25, 1, (0, 126))],
  [(26, 1, (0, 127))],
  [],
  [(28, 21, (0, 125))],
  [],
  [(30, 41, (1, 135))],
  [],
  [],
  [],
  []]
theorem jw_cpT_i : jw_idx jw_cpT = true := by decide +kernel
def jw_csT : List (List (Nat × Nat × (Nat × Nat))) := [[(0, 32, (9, 1))],
  [],
  [(2, 43, (99, 1)), (2, 58, (61, 1))],
  [],
  [(4, 26, (5, 1)), (4, 108, (21, 2)), (4, 114, (18, 3)), (4, 125, (26, 5)), (4, 133, (68, 3)), (4, 137, (90, 3)), (4, 144, (35, 2)), (4, 148, (88, 2)), (4, 191, (24, 1)), (4, 197, (33, 3)), (4, 226, (49, 6)), (4, 245, (39, 1)), (4, 248, (40, 3)), (4, 251, (41, 4))],
  [(5, 11, (6, 1)), (5, 48, (29, 1)), (5, 67, (34, 2)), (5, 71, (88, 2)), (5, 96, (42, 3)), (5, 103, (197, 5)), (5, 107, (5, 1)), (5, 111, (32, 3)), (5, 115, (201, 5)), (5, 119, (202, 3)), (5, 123, (87, 5)), (5, 126, (79, 3)), (5, 173, (28, 3)), (5, 241, (43, 3)), (5, 380, (69, 4)), (5, 393, (45, 3)), (5, 414, (35, 2)), (5, 419, (30, 3))],
  [(6, 21, (59, 1)), (6, 29, (63, 1)), (6, 42, (91, 1)), (6, 56, (9, 1)), (6, 63, (93, 1))],
  [(7, 49, (99, 1)), (7, 90, (134, 1)), (7, 96, (132, 1)), (7, 109, (143, 1)), (7, 124, (152, 1)), (7, 127, (59, 1)), (7, 135, (154, 3)), (7, 146, (150, 3)), (7, 152, (63, 1)), (7, 164, (91, 1))],
  [(8, 37, (95, 1)), (8, 51, (91, 1)), (8, 80, (186, 2))],
  [(9, 101, (93, 1))],
  [(10, 78, (63, 1)), (10, 100, (91, 1)), (10, 120, (93, 1))],
  [(11, 201, (20, 2))],
  [],
  [(13, 13, (70, 3)), (13, 300, (141, 3)), (13, 339, (80, 3)), (13, 343, (81, 2))],
  [(14, 9, (35, 2)), (14, 13, (195, 5)), (14, 236, (69, 4)), (14, 240, (27, 5))],
  [(15, 47, (89, 2)), (15, 54, (79, 3)), (15, 106, (26, 5)), (15, 177, (200, 3)), (15, 180, (202, 3)), (15, 299, (194, 1)), (15, 303, (196, 1)), (15, 495, (189, 2)), (15, 498, (190, 2)), (15, 541, (102, 2)), (15, 1051, (86, 3)), (15, 1059, (36, 3)), (15, 1062, (44, 4)), (15, 1065, (31, 4))],
  [],
  [],
  [],
  [],
  [],
  [],
  [],
  [],
  [],
  [(25, 66, (140, 2)), (25, 73, (18, 3)), (25, 118, (161, 2))],
  [],
  [],
  [],
  [],
  [],
  [],
  [(32, 105, (36, 3))],
  [],
  [(34, 138, (250, 2)), (34, 162, (219, 1)), (34, 166, (220, 3)), (34, 176, (224, 1)), (34, 225, (236, 7)), (34, 229, (235, 1)), (34, 314, (249, 1)), (34, 320, (247, 2))]]
theorem jw_csT_i : jw_idx jw_csT = true := by decide +kernel
def jw_ctT : List (List (Nat × Nat × (List (Nat × Bool)))) := [[(0, 75, [(0, false), (1, false), (2, false), (3, false), (4, false), (5, false), (6, false), (7, false), (8, true), (9, false), (10, false), (11, false), (12, false), (13, false), (14, false), (15, false), (16, false), (17, false)]), (0, 82, [(0, false), (1, false), (2, false), (3, false), (4, false), (5, false), (6, false), (7, false), (8, false), (9, false), (10, true), (11, false), (12, false), (13, false), (14, false), (15, false), (16, false), (17, false)])],
  [],
  [],
  [(3, 18, [(0, false), (1, false), (2, false), (3, false), (4, false), (5, false), (6, false), (7, false), (8, false), (9, true), (10, false), (11, false), (12, false), (13, false), (14, false), (15, false), (16, false), (17, false)])],
  [],
  [],
  [],
  [(7, 42, [(13, true)])],
  [],
  [(9, 44, [(13, true)]), (9, 68, [(14, true)])],
  [(10, 56, [(0, false), (1, false), (2, false), (3, false), (4, false), (5, false), (6, false), (7, false), (8, false), (9, true), (10, false), (11, false), (12, false), (13, false), (14, false), (15, false), (16, false), (17, false)])],
  [],
  [],
  [(13, 2, [(0, true), (1, true), (3, true), (4, true), (5, true), (6, true), (7, true), (9, true), (11, true), (13, true), (14, true), (15, true), (16, true), (17, true)]), (13, 43, [(0, false), (1, false), (2, false), (3, false), (4, false), (5, false), (6, false), (7, false), (8, true), (9, false), (10, false), (11, false), (12, false), (13, false), (14, false), (15, false), (16, false), (17, false)])],
  [],
  [(15, 10, [(0, false), (1, false), (2, false), (3, false), (4, false), (5, false), (6, false), (7, false), (8, false), (9, true), (10, false), (11, false), (12, false), (13, false), (14, false), (15, false), (16, false), (17, false)])],
  [],
  [],
  [],
  [],
  [],
  [],
  [(22, 13, [(0, false), (1, false), (2, false), (3, false), (4, false), (5, false), (6, false), (7, false), (8, true), (9, false), (10, false), (11, false), (12, false), (13, false), (14, false), (15, false), (16, false), (17, false)]), (22, 15, [(0, false), (1, false), (2, false), (3, false), (4, false), (5, false), (6, false), (7, false), (8, false), (9, false), (10, true), (11, false), (12, false), (13, false), (14, false), (15, false), (16, false), (17, false)])],
  [],
  [],
  [(25, 7, [(0, true), (1, true), (3, true), (4, true), (5, true), (6, true), (7, true), (9, true), (11, true), (13, true), (14, true), (15, true), (16, true), (17, true)])],
  [],
  [],
  [],
  [],
  [(30, 10, [(14, true)])],
  [],
  [],
  [],
  []]
theorem jw_ctT_i : jw_idx jw_ctT = true := by decide +kernel
def jw_xcT : List (List (Nat × Nat × (Nat × Nat))) := [[(0, 75, (77, 8)), (0, 82, (84, 10))],
  [],
  [],
  [],
  [],
  [],
  [],
  [],
  [],
  [],
  [],
  [],
  [],
  [],
  [],
  [],
  [],
  [],
  [],
  [],
  [],
  [],
  [],
  [],
  [],
  [],
  [],
  [],
  [],
  [],
  [],
  [],
  [],
  [],
  []]
theorem jw_xcT_i : jw_idx jw_xcT = true := by decide +kernel
def jw_oiT : List (List (Nat × Nat × Unit)) := [[(0, 1, ())],
  [],
  [(2, 3, ())],
  [],
  [(4, 3, ())],
  [],
  [(6, 3, ())],
  [(7, 3, ())],
  [(8, 3, ())],
  [(9, 3, ())],
  [(10, 3, ())],
  [],
  [],
  [],
  [],
  [(15, 1, ())],
  [],
  [],
  [(18, 1, ())],
  [],
  [],
  [],
  [],
  [],
  [(24, 1, ())],
  [],
  [],
  [(27, 1, ())],
  [(28, 1, ())],
  [],
  [(30, 3, ())],
  [(31, 3, ())],
  [],
  [],
  [(34, 1, ())]]
theorem jw_oiT_i : jw_idx jw_oiT = true := by decide +kernel
def jw_biT : List (List (Nat × Nat × Nat)) := [[],
  [],
  [],
  [],
  [(4, 138, 1)],
  [],
  [],
  [],
  [(8, 86, 1)],
  [],
  [],
  [(11, 194, 0)],
  [],
  [(13, 304, 1)],
  [],
  [],
  [],
  [],
  [],
  [],
  [],
  [],
  [],
  [],
  [],
  [(25, 79, 0)],
  [],
  [],
  [],
  [],
  [(30, 44, 1), (30, 50, 0)],
  [],
  [],
  [],
  []]
theorem jw_biT_i : jw_idx jw_biT = true := by decide +kernel
def jw_ls {α : Type} (l : List (Nat × α)) (k : Nat) : Option α := match l.find? (fun x => Nat.beq x.1 k) with
  | some x => some x.2
  | none => none
theorem jw_ls_mem {α : Type} {l : List (Nat × α)} {k : Nat} {x : α} (h : jw_ls l k = some x) : (k, x) ∈ l := by
  unfold jw_ls at h
  split at h
  · rename_i y hy
    cases h
    have h0 := List.find?_some hy
    have h1 := Nat.eq_of_beq_eq_true h0
    have h2 := List.mem_of_find?_eq_some hy
    obtain ⟨a, b⟩ := y
    dsimp only at h1
    subst h1
    exact h2
  · cases h
def jw_fld (own k ci : Nat) : Option Nat := match jw_find jw_fldT own k with
  | some l => jw_ls l ci
  | none => none
def jw_cv (own k : Nat) : Option (Nat × (Nat → Option Nat)) := match jw_find jw_cvT own k with
  | some x => some (x.1, jw_ls x.2)
  | none => none
def jw_cp (own k : Nat) : Option (Nat × (Nat → Option Nat)) := match jw_find jw_cpT own k with
  | some x => some (x.1, fun ci => if ci < 17 then some x.2 else none)
  | none => none
def jw_ct (own k ci : Nat) : Option Bool := match jw_find jw_ctT own k with
  | some l => jw_ls l ci
  | none => none
def jw_oi (own k : Nat) : Bool := match jw_find jw_oiT own k with
  | some _ => true
  | none => false
def jw_tyL : List FieldType := [.int, .long, .char, .byte, .object "PickDesk$Value", .object "PickDesk$Query", .object "java/lang/Object"]
def jw_ty (t : Nat) : Option FieldType := if t = 100 then some (.object "PickDesk$Word") else jw_tyL[t]?
def jw_ay : ArrayType → Option Nat
  | .int => some 0
  | .long => some 1
  | .char => some 2
  | .byte => some 3
  | _ => none
def jw_nfL : List (List Value) := [[.null, .null, .null, .null, .null, .int 0, .null, .null, .null], [.null, .int 0, .int 0, .int 0, .null], [.null, .int 0, .int 0, .int 0], [.null], [.null, .int 0], [.int 0, .int 0, .null, .null, .null, .int 0], [.null, .null, .int 0], [.null], [], [.null, .int 0, .int 0, .int 0], [], [.null], [.null, .int 0, .int 0], [.null, .null, .null], [.int 0, .null, .int 0, .int 0, .int 0, .null, .int 0, .null], [.null, .null, .int 0], [.int 0, .null, .int 0, .null, .null, .null, .null, .null, .null, .null, .null, .null, .null, .int 0, .int 0, .int 0, .null, .null, .null, .null, .null, .null, .null, .null, .null, .null, .null, .null, .int 0, .int 0, .int 0, .long 0, .int 0, .null, .null, .null, .int 0, .null, .null, .null, .null, .int 0, .int 0, .null, .null, .int 0, .null]]
def jw_nf (ci : Nat) : List Value := match jw_nfL[ci]? with
  | some l => l
  | none => []
def jw_ns (ci : Nat) : Nat := ([9, 5, 4, 1, 2, 6, 3, 1, 6, 4, 6, 1, 3, 3, 8, 3, 47] : List Nat).getD ci 0
def jw_ftL : List (List FieldType) := [[.object "PickDesk$Text", .object "PickDesk$ValueReader", .object "PickDesk$QueryReader", .object "PickDesk$Picker", .array (.object "PickDesk$Query"), .int, .object "PickDesk$Value", .object "PickDesk$Value", .object "java/lang/StringBuilder"], [.array .char, .int, .int, .int, .object "java/lang/StringBuilder"], [.array .byte, .byte, .boolean, .int], [.object "PickDesk$Text"], [.object "PickDesk$Text", .int], [.int, .int, .object "java/lang/String", .array (.object "PickDesk$Value"), .array (.object "PickDesk$Value"), .int], [.object "PickDesk$Value", .object "PickDesk$Words", .int], [.object "PickDesk$Value"], [], [.array .byte, .byte, .int, .boolean], [], [.object "java/util/ArrayList"], [.array (.object "java/lang/Object"), .int, .int], [.object "PickDesk$Word", .object "java/lang/String", .object "java/util/ArrayList"], [.int, .object "java/lang/String", .int, .int, .int, .object "PickDesk$Side", .int, .object "PickDesk$Side"], [.object "PickDesk$Value", .array (.object "PickDesk$Value"), .int], [.int, .array .int, .int, .array .int, .array .int, .array .long, .array .int, .array .int, .array .int, .array .long, .array .int, .array .int, .array .int, .int, .int, .int, .array .int, .array .int, .array .long, .array .int, .array .int, .array .int, .array .int, .array .int, .array .int, .array .long, .array .int, .array .long, .int, .int, .int, .long, .int, .array .int, .array .int, .array .long, .int, .array .int, .array .int, .array .int, .array .int, .int, .int, .array .int, .array .int, .int, .array .int]]
def jw_ft (ci f : Nat) : Option FieldType := match jw_ftL[ci]? with
  | some l => l[f]?
  | none => none
/-- a field that may be written: by the number of the class whose constructors may, or by all -/
def jw_fmL : List (List (Option Nat)) := [[some 0, some 0, some 0, some 0, some 0, none, none, none, some 0], [some 2, none, none, none, some 2], [none, none, none, none], [some 6], [some 7, none], [some 8, some 8, some 8, none, none, none], [some 9, some 9, none], [some 10], [], [some 15, some 15, none, none], [], [some 24], [none, none, none], [none, none, some 28], [some 30, none, none, none, none, none, none, none], [some 31, some 31, none], [none, some 34, none, some 34, some 34, some 34, some 34, some 34, some 34, some 34, some 34, some 34, some 34, none, none, none, some 34, some 34, some 34, some 34, some 34, some 34, some 34, some 34, some 34, some 34, some 34, some 34, none, none, none, none, none, some 34, some 34, some 34, none, some 34, some 34, some 34, some 34, none, none, some 34, some 34, none, some 34]]
def jw_fm (own ci f : Nat) : Option Bool := match jw_fmL[ci]? with
  | some l => (match l[f]? with
    | some none => some false
    | some (some o) => if o = own then some true else none
    | none => none)
  | none => none
/-- which array takes which class -/
def jw_tkL : List (Nat × Nat) := [(4, 5), (5, 11), (6, 0), (6, 1), (6, 3), (6, 4), (6, 5), (6, 6), (6, 7), (6, 9), (6, 11), (6, 13), (6, 14), (6, 15), (6, 16), (6, 17)]
def jw_tk (t ci : Nat) : Bool := jw_tkL.any fun x => Nat.beq x.1 t && Nat.beq x.2 ci
/-- the texts' bytes -/
def jw_txL : List (List Int32) := [[], [102, 114, 111, 109, 73, 110, 100, 101, 120, 40], [41, 32, 62, 32, 116, 111, 73, 110, 100, 101, 120, 40], [41], [32, 62, 32], [110, 111, 110, 101], [116, 114, 117, 116, 104], [110, 117, 109, 98, 101, 114], [116, 101, 120, 116], [108, 105, 115, 116], [111, 98, 106, 101, 99, 116], [115, 111, 114, 116], [115, 117, 109], [109, 97, 120], [109, 105, 110], [108, 101, 110, 103, 116, 104], [107, 101, 121, 115], [118, 97, 108, 117, 101, 115], [114, 101, 118, 101, 114, 115, 101], [116, 121, 112, 101]]
def jw_D1 : List Int32 := [48, 49, 50, 51, 52, 53, 54, 55, 56, 57, 48, 49, 50, 51, 52, 53, 54, 55, 56, 57, 48, 49, 50, 51, 52, 53, 54, 55, 56, 57, 48, 49, 50, 51, 52, 53, 54, 55, 56, 57, 48, 49, 50, 51, 52, 53, 54, 55, 56, 57, 48, 49, 50, 51, 52, 53, 54, 55, 56, 57, 48, 49, 50, 51, 52, 53, 54, 55, 56, 57, 48, 49, 50, 51, 52, 53, 54, 55, 56, 57, 48, 49, 50, 51, 52, 53, 54, 55, 56, 57, 48, 49, 50, 51, 52, 53, 54, 55, 56, 57]
def jw_D2 : List Int32 := [48, 48, 48, 48, 48, 48, 48, 48, 48, 48, 49, 49, 49, 49, 49, 49, 49, 49, 49, 49, 50, 50, 50, 50, 50, 50, 50, 50, 50, 50, 51, 51, 51, 51, 51, 51, 51, 51, 51, 51, 52, 52, 52, 52, 52, 52, 52, 52, 52, 52, 53, 53, 53, 53, 53, 53, 53, 53, 53, 53, 54, 54, 54, 54, 54, 54, 54, 54, 54, 54, 55, 55, 55, 55, 55, 55, 55, 55, 55, 55, 56, 56, 56, 56, 56, 56, 56, 56, 56, 56, 57, 57, 57, 57, 57, 57, 57, 57, 57, 57]
def jw_SW : List Int32 := [1, 2, 3, 4, 5, 6, 7, 8, 0]
def jw_AL : List Nat := [0, 1, 2, 3, 4, 5, 6, 7, 8]
def jw_spL : List Nat := [24, 25, 26, 20, 27, 21, 22, 23, 28]
def jw_taL : List Int32 := [112, 64, 64, 32, 48, 32, 32, 32, 127]
def jw_ocl (j : Nat) : Option Nat := if j < 9 then some 17 else if j < 29 then some 9 else none
def jw_ofl (j f : Nat) : Option Value := if j < 9 then (match f with
    | 0 => some (.ref (jx_big + jw_spL.getD j 0))
    | 1 => some (.int (jw_taL.getD j 0))
    | 2 => some (.int (Int32.ofNat j))
    | _ => none) else if j < 29 then (match f with
    | 0 => some (.ref (jx_big + 20 + j))
    | 1 => some (.int 0)
    | _ => none) else none
def jw_oar (L : Nat) (xs : Nat → Int32) (j : Nat) : Option (Nat × Nat × (Nat → Value)) := if j < 29 then none else if j < 49 then some (3, (jw_txL.getD (j - 29) []).length, fun i => .int ((jw_txL.getD (j - 29) []).getD i 0)) else
  match j - 49 with
  | 0 => some (100, 9, fun i => .ref (jx_big + jw_AL.getD i 0))
  | 1 => some (0, 9, fun i => .int (jw_SW.getD i 0))
  | 2 => some (3, 100, fun i => .int (jw_D1.getD i 0))
  | 3 => some (3, 100, fun i => .int (jw_D2.getD i 0))
  | 4 => some (6, 0, fun _ => .null)
  | 5 => some (0, L, fun i => .int (xs i))
  | _ => none
def jw_svB (β : Bool) (own k : Nat) : Option Value := bif (own == 15 && k == 1053) then some (bif β then .ref (jx_big + 55) else .null) else jw_find jw_svT own k
def jw_bt (L : Nat) (xs : Nat → Int32) : Bool := decide (¬ xs (L + 2000) = 0)
/-- System.arraycopy, getClass, and the class constant -/
def jw_biB (own k : Nat) : Option Nat := bif ((own == 8 && k == 55) || ((own == 13 && k == 150) || (own == 15 && k == 212))) then some 2 else bif (own == 13 && k == 86) then some 9 else jw_find jw_biT own k
def jw_kcB (own k : Nat) : Option Value := bif (own == 13 && k == 110) then some (.ref (jx_big + 56)) else jw_find jw_kcT own k
def jw_T (wr : Nat → Bool) (L : Nat) (xs : Nat → Int32) : jx_T :=
  (jw_fld, jw_find jw_nwT, jw_find jw_anT, jw_kcB, jw_svB (jw_bt L xs), jw_cv, jw_cp, jw_find jw_csT, jw_ct, jw_tk, jw_find jw_xcT, jw_oi, jw_biB, jw_ay, jw_nf, jw_ns, jw_ft, jw_fm, wr, jw_ty, jw_ocl, jw_ofl, jw_oar L xs, (9, 29, 55))
