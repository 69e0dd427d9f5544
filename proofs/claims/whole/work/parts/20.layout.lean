abbrev layT : List Ly := [
  (13, 9, [3, 24, 0, 45, 46, 50, 53, 57, 88]),
  (5, 14, [0, 0, 4, 5, 6, 7, 8, 9, 10, 11, 12, 13, 14, 15]),
  (2, 4, [16, 18, 20, 22]),
  (0, 4, []),
  (0, 4, []),
  (0, 4, []),
  (0, 4, []),
  (0, 4, []),
  (1, 3, []),
  (0, 3, []),
  (0, 3, []),
  (0, 3, []),
  (0, 3, []),
  (0, 4, []),
  (7, 2, [0, 17]),
  (0, 48, []),
  (7, 2, [0, 19]),
  (0, 48, []),
  (7, 2, [0, 21]),
  (0, 48, []),
  (7, 2, [0, 23]),
  (0, 48, []),
  (5, 14, [0, 0, 25, 26, 27, 28, 29, 30, 31, 32, 33, 34, 35, 36]),
  (2, 4, [37, 39, 41, 43]),
  (0, 4, []),
  (0, 4, []),
  (0, 4, []),
  (0, 4, []),
  (0, 4, []),
  (1, 3, []),
  (0, 3, []),
  (0, 3, []),
  (0, 3, []),
  (0, 3, []),
  (0, 4, []),
  (7, 2, [0, 38]),
  (0, 48, []),
  (7, 2, [0, 40]),
  (0, 48, []),
  (7, 2, [0, 42]),
  (0, 48, []),
  (7, 2, [0, 44]),
  (0, 48, []),
  (8, 4, [46, 48, 0, 0]),
  (11, 2, [47, 0]),
  (0, 120, []),
  (7, 2, [0, 49]),
  (0, 48, []),
  (12, 3, [0, 51, 52]),
  (0, 3, []),
  (0, 3, []),
  (4, 4, [0, 54, 55, 56]),
  (0, 4, []),
  (0, 4, []),
  (0, 4, []),
  (9, 15, [0, 58, 79, 83, 84, 85, 86, 87, 0, 0, 0, 0, 0, 0, 0]),
  (5, 14, [0, 0, 59, 60, 61, 62, 63, 64, 65, 66, 67, 68, 69, 70]),
  (2, 4, [71, 73, 75, 77]),
  (0, 4, []),
  (0, 4, []),
  (0, 4, []),
  (0, 4, []),
  (0, 4, []),
  (1, 3, []),
  (0, 3, []),
  (0, 3, []),
  (0, 3, []),
  (0, 3, []),
  (0, 4, []),
  (7, 2, [0, 72]),
  (0, 48, []),
  (7, 2, [0, 74]),
  (0, 48, []),
  (7, 2, [0, 76]),
  (0, 48, []),
  (7, 2, [0, 78]),
  (0, 48, []),
  (10, 4, [0, 80, 81, 82]),
  (0, 3600, []),
  (0, 6, []),
  (0, 2048, []),
  (0, 600, []),
  (0, 600, []),
  (0, 600, []),
  (0, 600, []),
  (0, 3, []),
  (6, 2, [89, 90]),
  (0, 4, []),
  (3, 4, [91, 92, 93, 94]),
  (0, 40, []),
  (0, 40, []),
  (0, 40, []),
  (0, 40, []),
  (14, 29, [96, 97, 98, 99, 100, 0, 101, 102, 103, 0, 0, 0, 0, 104, 105, 0, 0, 0, 106, 107, 108, 109, 110, 0, 0, 111, 0, 112, 113]),
  (0, 253, []),
  (0, 253, []),
  (0, 52, []),
  (0, 4, []),
  (0, 4, []),
  (0, 120, []),
  (0, 48, []),
  (0, 54, []),
  (0, 3, []),
  (0, 3, []),
  (0, 31200, []),
  (0, 600, []),
  (0, 600, []),
  (0, 600, []),
  (0, 2048, []),
  (0, 12, []),
  (0, 4, []),
  (0, 160, [])]
theorem L0 : layT[0]? = some (13, 9, [3, 24, 0, 45, 46, 50, 53, 57, 88]) := rfl
theorem L1 : layT[1]? = some (5, 14, [0, 0, 4, 5, 6, 7, 8, 9, 10, 11, 12, 13, 14, 15]) := rfl
theorem L2 : layT[2]? = some (2, 4, [16, 18, 20, 22]) := rfl
theorem L3 : layT[3]? = some (0, 4, []) := rfl
theorem L4 : layT[4]? = some (0, 4, []) := rfl
theorem L5 : layT[5]? = some (0, 4, []) := rfl
theorem L6 : layT[6]? = some (0, 4, []) := rfl
theorem L7 : layT[7]? = some (0, 4, []) := rfl
theorem L8 : layT[8]? = some (1, 3, []) := rfl
theorem L9 : layT[9]? = some (0, 3, []) := rfl
theorem L10 : layT[10]? = some (0, 3, []) := rfl
theorem L11 : layT[11]? = some (0, 3, []) := rfl
theorem L12 : layT[12]? = some (0, 3, []) := rfl
theorem L13 : layT[13]? = some (0, 4, []) := rfl
theorem L14 : layT[14]? = some (7, 2, [0, 17]) := rfl
theorem L15 : layT[15]? = some (0, 48, []) := rfl
theorem L16 : layT[16]? = some (7, 2, [0, 19]) := rfl
theorem L17 : layT[17]? = some (0, 48, []) := rfl
theorem L18 : layT[18]? = some (7, 2, [0, 21]) := rfl
theorem L19 : layT[19]? = some (0, 48, []) := rfl
theorem L20 : layT[20]? = some (7, 2, [0, 23]) := rfl
theorem L21 : layT[21]? = some (0, 48, []) := rfl
theorem L22 : layT[22]? = some (5, 14, [0, 0, 25, 26, 27, 28, 29, 30, 31, 32, 33, 34, 35, 36]) := rfl
theorem L23 : layT[23]? = some (2, 4, [37, 39, 41, 43]) := rfl
theorem L24 : layT[24]? = some (0, 4, []) := rfl
theorem L25 : layT[25]? = some (0, 4, []) := rfl
theorem L26 : layT[26]? = some (0, 4, []) := rfl
theorem L27 : layT[27]? = some (0, 4, []) := rfl
theorem L28 : layT[28]? = some (0, 4, []) := rfl
theorem L29 : layT[29]? = some (1, 3, []) := rfl
theorem L30 : layT[30]? = some (0, 3, []) := rfl
theorem L31 : layT[31]? = some (0, 3, []) := rfl
theorem L32 : layT[32]? = some (0, 3, []) := rfl
theorem L33 : layT[33]? = some (0, 3, []) := rfl
theorem L34 : layT[34]? = some (0, 4, []) := rfl
theorem L35 : layT[35]? = some (7, 2, [0, 38]) := rfl
theorem L36 : layT[36]? = some (0, 48, []) := rfl
theorem L37 : layT[37]? = some (7, 2, [0, 40]) := rfl
theorem L38 : layT[38]? = some (0, 48, []) := rfl
theorem L39 : layT[39]? = some (7, 2, [0, 42]) := rfl
theorem L40 : layT[40]? = some (0, 48, []) := rfl
theorem L41 : layT[41]? = some (7, 2, [0, 44]) := rfl
theorem L42 : layT[42]? = some (0, 48, []) := rfl
theorem L43 : layT[43]? = some (8, 4, [46, 48, 0, 0]) := rfl
theorem L44 : layT[44]? = some (11, 2, [47, 0]) := rfl
theorem L45 : layT[45]? = some (0, 120, []) := rfl
theorem L46 : layT[46]? = some (7, 2, [0, 49]) := rfl
theorem L47 : layT[47]? = some (0, 48, []) := rfl
theorem L48 : layT[48]? = some (12, 3, [0, 51, 52]) := rfl
theorem L49 : layT[49]? = some (0, 3, []) := rfl
theorem L50 : layT[50]? = some (0, 3, []) := rfl
theorem L51 : layT[51]? = some (4, 4, [0, 54, 55, 56]) := rfl
theorem L52 : layT[52]? = some (0, 4, []) := rfl
theorem L53 : layT[53]? = some (0, 4, []) := rfl
theorem L54 : layT[54]? = some (0, 4, []) := rfl
theorem L55 : layT[55]? = some (9, 15, [0, 58, 79, 83, 84, 85, 86, 87, 0, 0, 0, 0, 0, 0, 0]) := rfl
theorem L56 : layT[56]? = some (5, 14, [0, 0, 59, 60, 61, 62, 63, 64, 65, 66, 67, 68, 69, 70]) := rfl
theorem L57 : layT[57]? = some (2, 4, [71, 73, 75, 77]) := rfl
theorem L58 : layT[58]? = some (0, 4, []) := rfl
theorem L59 : layT[59]? = some (0, 4, []) := rfl
theorem L60 : layT[60]? = some (0, 4, []) := rfl
theorem L61 : layT[61]? = some (0, 4, []) := rfl
theorem L62 : layT[62]? = some (0, 4, []) := rfl
theorem L63 : layT[63]? = some (1, 3, []) := rfl
theorem L64 : layT[64]? = some (0, 3, []) := rfl
theorem L65 : layT[65]? = some (0, 3, []) := rfl
theorem L66 : layT[66]? = some (0, 3, []) := rfl
theorem L67 : layT[67]? = some (0, 3, []) := rfl
theorem L68 : layT[68]? = some (0, 4, []) := rfl
theorem L69 : layT[69]? = some (7, 2, [0, 72]) := rfl
theorem L70 : layT[70]? = some (0, 48, []) := rfl
theorem L71 : layT[71]? = some (7, 2, [0, 74]) := rfl
theorem L72 : layT[72]? = some (0, 48, []) := rfl
theorem L73 : layT[73]? = some (7, 2, [0, 76]) := rfl
theorem L74 : layT[74]? = some (0, 48, []) := rfl
theorem L75 : layT[75]? = some (7, 2, [0, 78]) := rfl
theorem L76 : layT[76]? = some (0, 48, []) := rfl
theorem L77 : layT[77]? = some (10, 4, [0, 80, 81, 82]) := rfl
theorem L78 : layT[78]? = some (0, 3600, []) := rfl
theorem L79 : layT[79]? = some (0, 6, []) := rfl
theorem L80 : layT[80]? = some (0, 2048, []) := rfl
theorem L81 : layT[81]? = some (0, 600, []) := rfl
theorem L82 : layT[82]? = some (0, 600, []) := rfl
theorem L83 : layT[83]? = some (0, 600, []) := rfl
theorem L84 : layT[84]? = some (0, 600, []) := rfl
theorem L85 : layT[85]? = some (0, 3, []) := rfl
theorem L86 : layT[86]? = some (6, 2, [89, 90]) := rfl
theorem L87 : layT[87]? = some (0, 4, []) := rfl
theorem L88 : layT[88]? = some (3, 4, [91, 92, 93, 94]) := rfl
theorem L89 : layT[89]? = some (0, 40, []) := rfl
theorem L90 : layT[90]? = some (0, 40, []) := rfl
theorem L91 : layT[91]? = some (0, 40, []) := rfl
theorem L92 : layT[92]? = some (0, 40, []) := rfl
theorem L93 : layT[93]? = some (14, 29, [96, 97, 98, 99, 100, 0, 101, 102, 103, 0, 0, 0, 0, 104, 105, 0, 0, 0, 106, 107, 108, 109, 110, 0, 0, 111, 0, 112, 113]) := rfl
theorem L94 : layT[94]? = some (0, 253, []) := rfl
theorem L95 : layT[95]? = some (0, 253, []) := rfl
theorem L96 : layT[96]? = some (0, 52, []) := rfl
theorem L97 : layT[97]? = some (0, 4, []) := rfl
theorem L98 : layT[98]? = some (0, 4, []) := rfl
theorem L99 : layT[99]? = some (0, 120, []) := rfl
theorem L100 : layT[100]? = some (0, 48, []) := rfl
theorem L101 : layT[101]? = some (0, 54, []) := rfl
theorem L102 : layT[102]? = some (0, 3, []) := rfl
theorem L103 : layT[103]? = some (0, 3, []) := rfl
theorem L104 : layT[104]? = some (0, 31200, []) := rfl
theorem L105 : layT[105]? = some (0, 600, []) := rfl
theorem L106 : layT[106]? = some (0, 600, []) := rfl
theorem L107 : layT[107]? = some (0, 600, []) := rfl
theorem L108 : layT[108]? = some (0, 2048, []) := rfl
theorem L109 : layT[109]? = some (0, 12, []) := rfl
theorem L110 : layT[110]? = some (0, 4, []) := rfl
theorem L111 : layT[111]? = some (0, 160, []) := rfl
/-- the answer v, the memory h -/
abbrev rt (v : Option Value) (h : Mem) : Option Value → Mem → Prop := fun r g => r = v ∧ g = h
abbrev C0 (M : MT) (as : List Value) (f : Mem) (post : Option Value → Mem → Prop) : Prop := Ct M 0 0 layT layT as f post
def isDesk (d : Nat) : Prop := d = 1 ∨ d = 22 ∨ d = 56
theorem LD0 {d : Nat} (h : isDesk d) : layT[d]? = some (5, 14, [0, 0, d + 1 + 2, d + 2 + 2, d + 3 + 2, d + 4 + 2, d + 5 + 2, d + 6 + 2, d + 7 + 2, d + 8 + 2, d + 9 + 2, d + 10 + 2, d + 11 + 2, d + 12 + 2]) := by rcases h with rfl | rfl | rfl <;> rfl
theorem LD1 {d : Nat} (h : isDesk d) : layT[d + 1]? = some (2, 4, [d + 13 + 2, d + 15 + 2, d + 17 + 2, d + 19 + 2]) := by rcases h with rfl | rfl | rfl <;> rfl
theorem LD2 {d : Nat} (h : isDesk d) : layT[d + 2]? = some (0, 4, []) := by rcases h with rfl | rfl | rfl <;> rfl
theorem LD3 {d : Nat} (h : isDesk d) : layT[d + 3]? = some (0, 4, []) := by rcases h with rfl | rfl | rfl <;> rfl
theorem LD4 {d : Nat} (h : isDesk d) : layT[d + 4]? = some (0, 4, []) := by rcases h with rfl | rfl | rfl <;> rfl
theorem LD5 {d : Nat} (h : isDesk d) : layT[d + 5]? = some (0, 4, []) := by rcases h with rfl | rfl | rfl <;> rfl
theorem LD6 {d : Nat} (h : isDesk d) : layT[d + 6]? = some (0, 4, []) := by rcases h with rfl | rfl | rfl <;> rfl
theorem LD7 {d : Nat} (h : isDesk d) : layT[d + 7]? = some (1, 3, []) := by rcases h with rfl | rfl | rfl <;> rfl
theorem LD8 {d : Nat} (h : isDesk d) : layT[d + 8]? = some (0, 3, []) := by rcases h with rfl | rfl | rfl <;> rfl
theorem LD9 {d : Nat} (h : isDesk d) : layT[d + 9]? = some (0, 3, []) := by rcases h with rfl | rfl | rfl <;> rfl
theorem LD10 {d : Nat} (h : isDesk d) : layT[d + 10]? = some (0, 3, []) := by rcases h with rfl | rfl | rfl <;> rfl
theorem LD11 {d : Nat} (h : isDesk d) : layT[d + 11]? = some (0, 3, []) := by rcases h with rfl | rfl | rfl <;> rfl
theorem LD12 {d : Nat} (h : isDesk d) : layT[d + 12]? = some (0, 4, []) := by rcases h with rfl | rfl | rfl <;> rfl
/-- the cell of a task's program -/
def isProg (p : Nat) : Prop := layT[p]? = some (7, 2, [0, p + 1 + 2]) ∧ layT[p + 1]? = some (0, 48, [])
theorem isDesk.prog {d t : Nat} (h : isDesk d) (ht : t < 4) : isProg (d + 13 + 2 * t) ∧ [d + 13 + 2, d + 15 + 2, d + 17 + 2, d + 19 + 2][t]? = some (d + 13 + 2 * t + 2) := by
  rcases h with rfl | rfl | rfl <;> (match t, ht with | 0, _ => exact ⟨⟨rfl, rfl⟩, rfl⟩ | 1, _ => exact ⟨⟨rfl, rfl⟩, rfl⟩ | 2, _ => exact ⟨⟨rfl, rfl⟩, rfl⟩ | 3, _ => exact ⟨⟨rfl, rfl⟩, rfl⟩)
theorem isProg46 : isProg 46 := ⟨rfl, rfl⟩
