def ESL : List (String × Nat × String × Nat) := [("ArmsBook", 278, "no such person", 0), ("ArmsBook", 86, "neither father nor mother", 1), ("ArmsBook", 110, "no such bytes or year", 2), ("ArmsBook$Scanner", 58, "refuse", 3), ("ArmsBook$Scanner", 64, "differ", 4), ("ArmsBook$Scanner", 66, "fee", 5), ("ArmsBook$Scanner", 68, "and", 6), ("ArmsBook$Scanner", 70, "or", 7), ("ArmsBook$Scanner", 72, "not", 8), ("ArmsBook$Scanner", 77, "grade", 9), ("ArmsBook$Scanner", 79, "steps", 10), ("ArmsBook$Scanner", 81, "year", 11), ("ArmsBook$Scanner", 83, "born", 12), ("ArmsBook$Scanner", 85, "female", 13), ("ArmsBook$Scanner", 87, "marks", 14), ("ArmsBook$Scanner", 89, "rivals", 15), ("ArmsBook$Scanner", 91, "quarters", 16), ("ArmsBook", 166, "nothing of that number is told of people", 17), ("ArmsBook", 203, "nothing of that number is told of bearers", 18), ("ArmsBook", 205, "no such mark", 19), ("ArmsBook", 220, "no such quarter", 20), ("ArmsBook", 253, "no such copy", 21), ("ArmsBook", 270, "nothing of that number is told of copies", 22), ("ArmsBook", 275, "nothing of that number is counted", 23), ("ArmsBookModel", 9, "grade", 24), ("ArmsBookModel", 11, "steps", 25), ("ArmsBookModel", 13, "year", 26), ("ArmsBookModel", 15, "born", 27), ("ArmsBookModel", 17, "female", 28), ("ArmsBookModel", 19, "marks", 29), ("ArmsBookModel", 21, "rivals", 30), ("ArmsBookModel", 23, "quarters", 31), ("ArmsBookModel", 249, "refuse", 32), ("ArmsBookModel", 255, "differ", 33), ("ArmsBookModel", 257, "fee", 34), ("ArmsBookModel", 278, "not", 35), ("ArmsBookModel", 271, "and", 36), ("ArmsBookModel", 273, "or", 37)]
def ESN : Nat := 38
def ESlen : List Nat := [14, 25, 21, 6, 6, 3, 3, 2, 3, 5, 5, 4, 4, 6, 5, 6, 8, 40, 41, 12, 15, 12, 40, 33, 5, 5, 4, 4, 6, 5, 6, 8, 6, 6, 3, 3, 3, 2]
def ESbyt : List (List Int32) := [[110, 111, 32, 115, 117, 99, 104, 32, 112, 101, 114, 115, 111, 110], [110, 101, 105, 116, 104, 101, 114, 32, 102, 97, 116, 104, 101, 114, 32, 110, 111, 114, 32, 109, 111, 116, 104, 101, 114], [110, 111, 32, 115, 117, 99, 104, 32, 98, 121, 116, 101, 115, 32, 111, 114, 32, 121, 101, 97, 114], [114, 101, 102, 117, 115, 101], [100, 105, 102, 102, 101, 114], [102, 101, 101], [97, 110, 100], [111, 114], [110, 111, 116], [103, 114, 97, 100, 101], [115, 116, 101, 112, 115], [121, 101, 97, 114], [98, 111, 114, 110], [102, 101, 109, 97, 108, 101], [109, 97, 114, 107, 115], [114, 105, 118, 97, 108, 115], [113, 117, 97, 114, 116, 101, 114, 115], [110, 111, 116, 104, 105, 110, 103, 32, 111, 102, 32, 116, 104, 97, 116, 32, 110, 117, 109, 98, 101, 114, 32, 105, 115, 32, 116, 111, 108, 100, 32, 111, 102, 32, 112, 101, 111, 112, 108, 101], [110, 111, 116, 104, 105, 110, 103, 32, 111, 102, 32, 116, 104, 97, 116, 32, 110, 117, 109, 98, 101, 114, 32, 105, 115, 32, 116, 111, 108, 100, 32, 111, 102, 32, 98, 101, 97, 114, 101, 114, 115], [110, 111, 32, 115, 117, 99, 104, 32, 109, 97, 114, 107], [110, 111, 32, 115, 117, 99, 104, 32, 113, 117, 97, 114, 116, 101, 114], [110, 111, 32, 115, 117, 99, 104, 32, 99, 111, 112, 121], [110, 111, 116, 104, 105, 110, 103, 32, 111, 102, 32, 116, 104, 97, 116, 32, 110, 117, 109, 98, 101, 114, 32, 105, 115, 32, 116, 111, 108, 100, 32, 111, 102, 32, 99, 111, 112, 105, 101, 115], [110, 111, 116, 104, 105, 110, 103, 32, 111, 102, 32, 116, 104, 97, 116, 32, 110, 117, 109, 98, 101, 114, 32, 105, 115, 32, 99, 111, 117, 110, 116, 101, 100], [103, 114, 97, 100, 101], [115, 116, 101, 112, 115], [121, 101, 97, 114], [98, 111, 114, 110], [102, 101, 109, 97, 108, 101], [109, 97, 114, 107, 115], [114, 105, 118, 97, 108, 115], [113, 117, 97, 114, 116, 101, 114, 115], [114, 101, 102, 117, 115, 101], [100, 105, 102, 102, 101, 114], [102, 101, 101], [110, 111, 116], [97, 110, 100], [111, 114]]
def ESs (sk sv : Nat → Nat) (A : Nat → Prop) (U : State) (H : Heap) : Prop :=
  ∀ i : Nat, i < ESN → va_O "java/lang/String" (sk i) A U H ∧ va_OF "java/lang/String" "coder" "B" (.int 0) (sk i) A U H ∧ va_OF "java/lang/String" "value" "[B" (.ref (sv i)) (sk i) A U H ∧ va_T .byte (sv i) (ESlen.getD i 0) (fun j => .int ((ESbyt.getD i []).getD j 0)) A U H
theorem ESs.moved {sk sv : Nat → Nat} {A : Nat → Prop} {u U : State} {H : Heap} (hvm : u.vm.Alike U.vm) (h : ESs sk sv A u H) : ESs sk sv A U H :=
  fun i hi => ⟨va_O.moved hvm (h i hi).1, va_OF.moved hvm (h i hi).2.1, va_OF.moved hvm (h i hi).2.2.1, va_T.moved hvm (h i hi).2.2.2⟩
theorem ESs.kept {sk sv : Nat → Nat} {A : Nat → Prop} {U : State} {H H1 : Heap} (h : ESs sk sv A U H) (hq : ∀ a : Nat, a < H.size → ¬ A a → H1[a]? = H[a]?) : ESs sk sv A U H1 :=
  fun i hi => ⟨(h i hi).1.kept hq, (h i hi).2.1.kept hq, (h i hi).2.2.1.kept hq, (h i hi).2.2.2.kept hq⟩
-- PRINTED HEAD END
/-! The frame's own words: J is W over any heap that holds the world ws, with the locals by a list; a row an instruction. -/
def TW : List Cond := lw_tbl.filter goodWord
def evw : Cond → Bool
  | .fieldLinkNest .. => true
  | .methodLinkNest .. => true
  | .castable .. => true
  | .declares .. => true
  | _ => false
def EWL : List Cond := tables_1.filter evw
/-- what every method of the system is told beside its world: D, the array classes, the first address that is ours, the strings' addresses and their rows', the book's and the model's addresses -/
abbrev GT : Type := va_G × (Nat → ClassId) × Nat × (Nat → Nat) × (Nat → Nat) × (Nat → Nat) × (Nat → Nat)
abbrev gD (G : GT) : va_G := G.1
abbrev gct (G : GT) : Nat → ClassId := G.2.1
abbrev gB (G : GT) : Nat := G.2.2.1
abbrev gsk (G : GT) : Nat → Nat := G.2.2.2.1
abbrev gsv (G : GT) : Nat → Nat := G.2.2.2.2.1
abbrev gb (G : GT) : Nat → Nat := G.2.2.2.2.2.1
abbrev gm (G : GT) : Nat → Nat := G.2.2.2.2.2.2
abbrev gA (G : GT) : Nat → Prop := fun q => gB G ≤ q
def tyl (ct : Nat → ClassId) : List (ClassId × FieldType) := [(ct 0, .boolean), (ct 1, .int), (ct 2, .byte), (ct 3, .long), (ct 4, .object "ArmsBook$Text"), (ct 5, .object "java/lang/String")]
abbrev YT : Type := Program × Env × State × MethodId × Array Value × List Frame × Method × Code × (State → Prop)
abbrev yp (Y : YT) : Program := Y.1
abbrev ye (Y : YT) : Env := Y.2.1
abbrev ys (Y : YT) : State := Y.2.2.1
abbrev ym (Y : YT) : MethodId := Y.2.2.2.1
abbrev ya (Y : YT) : Array Value := Y.2.2.2.2.1
abbrev yb (Y : YT) : List Frame := Y.2.2.2.2.2.1
abbrev yt (Y : YT) : Method := Y.2.2.2.2.2.2.1
abbrev yc (Y : YT) : Code := Y.2.2.2.2.2.2.2.1
abbrev yQ (Y : YT) : State → Prop := Y.2.2.2.2.2.2.2.2
/-- what stands about: launch, nest words, the two statics of Throwable, the string constants -/
def EV (l : Launch) (G : GT) (U : State) : Prop :=
  l.stackTraces = false ∧ (∀ w ∈ EWL, va_Nw w U) ∧ vx_Zq Bundle.tN "UNASSIGNED_STACK" Bundle.steD (gA G) U U.heap ∧ vx_Zq Bundle.tN "SUPPRESSED_SENTINEL" Bundle.listD (gA G) U U.heap ∧
  (∀ q ∈ ESL, vk_R q.1 q.2.1 q.2.2.1 (gsk G q.2.2.2) U) ∧ ESs (gsk G) (gsv G) (gA G) U U.heap ∧
  va_Z "java/lang/String" "COMPACT_STRINGS" "Z" (.int 1) (gA G) U U.heap ∧ va_Zq "jdk/internal/util/Preconditions" "SIOOBE_FORMATTER" "Ljava/util/function/BiFunction;" (gA G) U U.heap
theorem va_Nw.warmE {w : Cond} (hw : evw w = true) {s U : State} (hW : s.WarmedH U.vm) (h : va_Nw w s) : va_Nw w U := by
  cases w <;> first
    | exact va_Nw.warmF hW h
    | exact va_Nw.warmM hW h
    | (simp [evw] at hw; done)
    | (have h1 := Cond.before_shiftedFace (State.Shifted.of_warmed hW) _ rfl h; exact va_tabs rfl (rfl : (s.setVm U.vm).vm = U.vm) h1)
theorem va_Nw.sameE {w : Cond} (hw : evw w = true) {s U : State} (hv : s.vm = U.vm) (h : va_Nw w s) : va_Nw w U := by
  cases w <;> first
    | exact va_tabs rfl hv h
    | (simp [evw] at hw; done)
theorem EV.to {l : Launch} {G : GT} {s U : State} (h : EV l G s) (hB : gB G ≤ s.heap.size) (hW : s.WarmedH U.vm) (hH : ∀ q : Nat, q < gB G → U.heap[q]? = s.heap[q]?) : EV l G U := by
  obtain ⟨h1, h2, h3, h4, h5, h6, h7, h8⟩ := h
  have hk : ∀ a : Nat, a < s.heap.size → ¬ gA G a → U.heap[a]? = s.heap[a]? := fun a _ h => hH a (Nat.not_le.mp h)
  exact ⟨h1, fun w hw => va_Nw.warmE (List.mem_filter.mp hw).2 hW (h2 w hw), (h3.moved hW.alike).kept hk, (h4.moved hW.alike).kept hk, fun q hq => (h5 q hq).warm hW, (h6.moved hW.alike).kept hk, (h7.moved hW.alike).kept hk, (h8.moved hW.alike).kept hk⟩
theorem EV.same {l : Launch} {G : GT} {s U : State} (h : EV l G s) (hv : s.vm = U.vm) (hH : U.heap = s.heap) : EV l G U := by
  obtain ⟨h1, h2, h3, h4, h5, h6, h7, h8⟩ := h
  have ha : s.vm.Alike U.vm := by rw [hv]; exact Vm.Alike.refl _
  rw [← hH] at h3 h4 h6 h7 h8
  exact ⟨h1, fun w hw => va_Nw.sameE (List.mem_filter.mp hw).2 hv (h2 w hw), h3.moved ha, h4.moved ha, fun q hq => (h5 q hq).same hv.symm, h6.moved ha, h7.moved ha, h8.moved ha⟩
def CX (l : Launch) (G : GT) (cc : ByteArray) (nL : Nat) (own : String) (Y : YT) : Prop :=
  (yp Y).tables.exec = Jvm.exec ∧ (yc Y).code = cc ∧ (yc Y).maxLocals = nL ∧ (ys Y).vm.findClass own = some (ym Y).cls ∧ (∀ w ∈ TW, w.before (ya Y) (ys Y) = true) ∧
  va_K (gD G) vwCl (tyl (gct G)) (ys Y) ∧ gB G ≤ (ys Y).heap.size ∧ EV l G (ys Y) ∧ (yt Y).locks = false
def J (l : Launch) (G : GT) (R : Room) (Y : YT) (cells slots pc : Nat) (lv : List (Nat × Value)) (st : List Value) (ws : va_W) : Prop :=
  ∀ (H : Heap) (locs : List Loc) (ls : Array Slot), lv_has ls (yc Y).maxLocals lv → va_P (gD G) vwCl ws H → va_D (gA G) ws → va_S (gA G) (ys Y).heap H locs →
    W (yp Y) l (ye Y) R (ys Y) (ym Y) (ya Y) (yb Y) (yt Y) (yc Y) H locs cells slots (yQ Y) (F0 (ym Y) pc ls st)
def inb (i : Int32) (n : Nat) : Bool := !(decide (i < 0) || decide (n ≤ i.toNatClampNeg))
theorem inb_in {i : Int32} {n : Nat} (h : inb i n = true) : vp_in i n := by
  unfold inb at h
  intro h2
  simp at h
  rcases h2 with h2 | h2
  · exact absurd h2 (by simpa using h.1)
  · omega
section JR
variable {l : Launch} {G : GT} {R : Room} {Y : YT} {cells slots pc : Nat} {lv : List (Nat × Value)} {st : List Value} {ws : va_W} {cc : ByteArray} {nL : Nat} {own : String}
theorem j_iconst {n : Int} {v : Int32} (hX : CX l G cc nL own Y) (d : decode cc pc = .ok (.iconst n, 1)) (pn : Nat) (hp : pc + 1 = pn) (hv : Int32.ofInt n = v) (k : J l G R Y cells slots pn lv (.int v :: st) ws) : J l G R Y cells slots pc lv st ws :=
  fun H locs ls a b c e => lv_iconst hX.1 hX.2.1 d hv (by rw [hp]; exact k H locs ls a b c e)
theorem j_bipush {n : Int} {v : Int32} (hX : CX l G cc nL own Y) (d : decode cc pc = .ok (.bipush n, 2)) (pn : Nat) (hp : pc + 2 = pn) (hv : (Int8.ofInt n).toInt32 = v) (k : J l G R Y cells slots pn lv (.int v :: st) ws) : J l G R Y cells slots pc lv st ws :=
  fun H locs ls a b c e => lv_bipush hX.1 hX.2.1 d hv (by rw [hp]; exact k H locs ls a b c e)
theorem j_sipush {n : Int} {v : Int32} (hX : CX l G cc nL own Y) (d : decode cc pc = .ok (.sipush n, 3)) (pn : Nat) (hp : pc + 3 = pn) (hv : (Int16.ofInt n).toInt32 = v) (k : J l G R Y cells slots pn lv (.int v :: st) ws) : J l G R Y cells slots pc lv st ws :=
  fun H locs ls a b c e => lv_sipush hX.1 hX.2.1 d hv (by rw [hp]; exact k H locs ls a b c e)
theorem j_lconst {n : Fin 2} {v : Int64} (hX : CX l G cc nL own Y) (d : decode cc pc = .ok (.lconst n, 1)) (pn : Nat) (hp : pc + 1 = pn) (hv : Int64.ofNat (n : Nat) = v) (k : J l G R Y cells slots pn lv (.long v :: st) ws) : J l G R Y cells slots pc lv st ws :=
  fun H locs ls a b c e => lv_lconst hX.1 hX.2.1 d hv (by rw [hp]; exact k H locs ls a b c e)
theorem j_ldcI {idx : Nat} {v : Int32} (hX : CX l G cc nL own Y) (d : decode cc pc = .ok (.ldc idx, 2)) (pn : Nat) (hp : pc + 2 = pn) (hw : Cond.constant own idx v ∈ TW) (k : J l G R Y cells slots pn lv (.int v :: st) ws) : J l G R Y cells slots pc lv st ws :=
  fun H locs ls a b c e => lv_ldc hX.1 hX.2.1 hX.2.2.2.1 (hX.2.2.2.2.1 _ hw) d (by rw [hp]; exact k H locs ls a b c e)
theorem j_iload_n {i : Nat} {x : Int32} {z : Fin 4} (hX : CX l G cc nL own Y) (d : decode cc pc = .ok (.iload_n z, 1)) (pn : Nat) (hp : pc + 1 = pn) (kk : Nat) (hk : lv[kk]? = some (i, .int x)) (hz : (z : Nat) = i) (k : J l G R Y cells slots pn lv (.int x :: st) ws) : J l G R Y cells slots pc lv st ws :=
  fun H locs ls a b c e => lv_iload_n hX.1 hX.2.1 d hz (lv_at a kk hk) (by rw [hp]; exact k H locs ls a b c e)
theorem j_iload {i : Nat} {x : Int32} (hX : CX l G cc nL own Y) (d : decode cc pc = .ok (.iload i, 2)) (pn : Nat) (hp : pc + 2 = pn) (kk : Nat) (hk : lv[kk]? = some (i, .int x)) (k : J l G R Y cells slots pn lv (.int x :: st) ws) : J l G R Y cells slots pc lv st ws :=
  fun H locs ls a b c e => lv_iload hX.1 hX.2.1 d (lv_at a kk hk) (by rw [hp]; exact k H locs ls a b c e)
theorem j_lload_n {i : Nat} {x : Int64} {z : Fin 4} (hX : CX l G cc nL own Y) (d : decode cc pc = .ok (.lload_n z, 1)) (pn : Nat) (hp : pc + 1 = pn) (kk : Nat) (hk : lv[kk]? = some (i, .long x)) (hz : (z : Nat) = i) (k : J l G R Y cells slots pn lv (.long x :: st) ws) : J l G R Y cells slots pc lv st ws :=
  fun H locs ls a b c e => lv_lload_n hX.1 hX.2.1 d hz (lv_at a kk hk) (by rw [hp]; exact k H locs ls a b c e)
theorem j_lload {i : Nat} {x : Int64} (hX : CX l G cc nL own Y) (d : decode cc pc = .ok (.lload i, 2)) (pn : Nat) (hp : pc + 2 = pn) (kk : Nat) (hk : lv[kk]? = some (i, .long x)) (k : J l G R Y cells slots pn lv (.long x :: st) ws) : J l G R Y cells slots pc lv st ws :=
  fun H locs ls a b c e => lv_lload hX.1 hX.2.1 d (lv_at a kk hk) (by rw [hp]; exact k H locs ls a b c e)
theorem j_aload_n {i x : Nat} {z : Fin 4} (hX : CX l G cc nL own Y) (d : decode cc pc = .ok (.aload_n z, 1)) (pn : Nat) (hp : pc + 1 = pn) (kk : Nat) (hk : lv[kk]? = some (i, .ref x)) (hz : (z : Nat) = i) (k : J l G R Y cells slots pn lv (.ref x :: st) ws) : J l G R Y cells slots pc lv st ws :=
  fun H locs ls a b c e => lv_aload_n hX.1 hX.2.1 d hz (lv_at a kk hk) (by rw [hp]; exact k H locs ls a b c e)
theorem j_aload {i x : Nat} (hX : CX l G cc nL own Y) (d : decode cc pc = .ok (.aload i, 2)) (pn : Nat) (hp : pc + 2 = pn) (kk : Nat) (hk : lv[kk]? = some (i, .ref x)) (k : J l G R Y cells slots pn lv (.ref x :: st) ws) : J l G R Y cells slots pc lv st ws :=
  fun H locs ls a b c e => lv_aload hX.1 hX.2.1 d (lv_at a kk hk) (by rw [hp]; exact k H locs ls a b c e)
theorem j_istore_n {i : Nat} {x : Int32} {z : Fin 4} {lv' : List (Nat × Value)} (hX : CX l G cc nL own Y) (d : decode cc pc = .ok (.istore_n z, 1)) (pn : Nat) (hp : pc + 1 = pn) (hz : (z : Nat) = i) (hn : i < nL) (hl : (i, Value.int x) :: lv.filter (fun q => !(q.1 == i) && !(q.1 + 1 == i && q.2.category == 2)) = lv') (k : J l G R Y cells slots pn lv' st ws) : J l G R Y cells slots pc lv (.int x :: st) ws :=
  fun H locs ls a b c e => lv_istore_n hX.1 hX.2.1 d hz a (by rw [hX.2.2.1]; exact hn) hl (fun ls' a' => by rw [hp]; exact k H locs ls' a' b c e)
theorem j_istore {i : Nat} {x : Int32} {lv' : List (Nat × Value)} (hX : CX l G cc nL own Y) (d : decode cc pc = .ok (.istore i, 2)) (pn : Nat) (hp : pc + 2 = pn) (hn : i < nL) (hl : (i, Value.int x) :: lv.filter (fun q => !(q.1 == i) && !(q.1 + 1 == i && q.2.category == 2)) = lv') (k : J l G R Y cells slots pn lv' st ws) : J l G R Y cells slots pc lv (.int x :: st) ws :=
  fun H locs ls a b c e => lv_istore hX.1 hX.2.1 d a (by rw [hX.2.2.1]; exact hn) hl (fun ls' a' => by rw [hp]; exact k H locs ls' a' b c e)
theorem j_iinc {i : Nat} {x v : Int32} {n : Int} {lv' : List (Nat × Value)} (hX : CX l G cc nL own Y) (d : decode cc pc = .ok (.iinc i n, 3)) (pn : Nat) (hp : pc + 3 = pn) (kk : Nat) (hk : lv[kk]? = some (i, .int x)) (hv : x + Int32.ofInt n = v) (hn : i < nL) (hl : (i, Value.int v) :: lv.filter (fun q => !(q.1 == i) && !(q.1 + 1 == i && q.2.category == 2)) = lv') (k : J l G R Y cells slots pn lv' st ws) : J l G R Y cells slots pc lv st ws :=
  fun H locs ls a b c e => lv_iinc hX.1 hX.2.1 d a hk hv (by rw [hX.2.2.1]; exact hn) hl (fun ls' a' => by rw [hp]; exact k H locs ls' a' b c e)
theorem j_iadd {x y : Int32} (hX : CX l G cc nL own Y) (d : decode cc pc = .ok (.iadd, 1)) (pn : Nat) (hp : pc + 1 = pn) (k : J l G R Y cells slots pn lv (.int (x + y) :: st) ws) : J l G R Y cells slots pc lv (.int y :: .int x :: st) ws :=
  fun H locs ls a b c e => lv_iadd hX.1 hX.2.1 d (by rw [hp]; exact k H locs ls a b c e)
theorem j_isub {x y : Int32} (hX : CX l G cc nL own Y) (d : decode cc pc = .ok (.isub, 1)) (pn : Nat) (hp : pc + 1 = pn) (k : J l G R Y cells slots pn lv (.int (x - y) :: st) ws) : J l G R Y cells slots pc lv (.int y :: .int x :: st) ws :=
  fun H locs ls a b c e => lv_isub hX.1 hX.2.1 d (by rw [hp]; exact k H locs ls a b c e)
theorem j_imul {x y : Int32} (hX : CX l G cc nL own Y) (d : decode cc pc = .ok (.imul, 1)) (pn : Nat) (hp : pc + 1 = pn) (k : J l G R Y cells slots pn lv (.int (x * y) :: st) ws) : J l G R Y cells slots pc lv (.int y :: .int x :: st) ws :=
  fun H locs ls a b c e => lv_imul hX.1 hX.2.1 d (by rw [hp]; exact k H locs ls a b c e)
theorem j_iand {x y : Int32} (hX : CX l G cc nL own Y) (d : decode cc pc = .ok (.iand, 1)) (pn : Nat) (hp : pc + 1 = pn) (k : J l G R Y cells slots pn lv (.int (x &&& y) :: st) ws) : J l G R Y cells slots pc lv (.int y :: .int x :: st) ws :=
  fun H locs ls a b c e => lv_iand hX.1 hX.2.1 d (by rw [hp]; exact k H locs ls a b c e)
theorem j_ixor {x y : Int32} (hX : CX l G cc nL own Y) (d : decode cc pc = .ok (.ixor, 1)) (pn : Nat) (hp : pc + 1 = pn) (k : J l G R Y cells slots pn lv (.int (x ^^^ y) :: st) ws) : J l G R Y cells slots pc lv (.int y :: .int x :: st) ws :=
  fun H locs ls a b c e => lv_ixor hX.1 hX.2.1 d (by rw [hp]; exact k H locs ls a b c e)
theorem j_irem {x y : Int32} (hX : CX l G cc nL own Y) (d : decode cc pc = .ok (.irem, 1)) (pn : Nat) (hp : pc + 1 = pn) (hy : ¬ y = 0) (k : J l G R Y cells slots pn lv (.int (x - x / y * y) :: st) ws) : J l G R Y cells slots pc lv (.int y :: .int x :: st) ws :=
  fun H locs ls a b c e => lv_irem hX.1 hX.2.1 d hy (by rw [hp]; exact k H locs ls a b c e)
theorem j_ishr {x y : Int32} (hX : CX l G cc nL own Y) (d : decode cc pc = .ok (.ishr, 1)) (pn : Nat) (hp : pc + 1 = pn) (k : J l G R Y cells slots pn lv (.int (x >>> (y &&& 31)) :: st) ws) : J l G R Y cells slots pc lv (.int y :: .int x :: st) ws :=
  fun H locs ls a b c e => lv_ishr hX.1 hX.2.1 d (by rw [hp]; exact k H locs ls a b c e)
def ushr32 (x y : Int32) : Int32 := (x.toUInt32 >>> (y.toUInt32 &&& Int32.toUInt32 31)).toInt32
def ushr64 (x : Int64) (y : Int32) : Int64 := (x.toUInt64 >>> (y.toInt64.toUInt64 &&& Int64.toUInt64 63)).toInt64
def shl64 (x : Int64) (y : Int32) : Int64 := x <<< (y.toInt64 &&& 63)
theorem j_iushr {x y : Int32} (hX : CX l G cc nL own Y) (d : decode cc pc = .ok (.iushr, 1)) (pn : Nat) (hp : pc + 1 = pn) (k : J l G R Y cells slots pn lv (.int (ushr32 x y) :: st) ws) : J l G R Y cells slots pc lv (.int y :: .int x :: st) ws :=
  fun H locs ls a b c e => lv_iushr hX.1 hX.2.1 d rfl (by rw [hp]; exact k H locs ls a b c e)
theorem j_lushr {x : Int64} {y : Int32} (hX : CX l G cc nL own Y) (d : decode cc pc = .ok (.lushr, 1)) (pn : Nat) (hp : pc + 1 = pn) (k : J l G R Y cells slots pn lv (.long (ushr64 x y) :: st) ws) : J l G R Y cells slots pc lv (.int y :: .long x :: st) ws :=
  fun H locs ls a b c e => lv_lushr hX.1 hX.2.1 d rfl (by rw [hp]; exact k H locs ls a b c e)
theorem j_lshl {x : Int64} {y : Int32} (hX : CX l G cc nL own Y) (d : decode cc pc = .ok (.lshl, 1)) (pn : Nat) (hp : pc + 1 = pn) (k : J l G R Y cells slots pn lv (.long (shl64 x y) :: st) ws) : J l G R Y cells slots pc lv (.int y :: .long x :: st) ws :=
  fun H locs ls a b c e => lv_lshl hX.1 hX.2.1 d rfl (by rw [hp]; exact k H locs ls a b c e)
theorem j_land {x y : Int64} (hX : CX l G cc nL own Y) (d : decode cc pc = .ok (.land, 1)) (pn : Nat) (hp : pc + 1 = pn) (k : J l G R Y cells slots pn lv (.long (x &&& y) :: st) ws) : J l G R Y cells slots pc lv (.long y :: .long x :: st) ws :=
  fun H locs ls a b c e => lv_land hX.1 hX.2.1 d (by rw [hp]; exact k H locs ls a b c e)
theorem j_lor {x y : Int64} (hX : CX l G cc nL own Y) (d : decode cc pc = .ok (.lor, 1)) (pn : Nat) (hp : pc + 1 = pn) (k : J l G R Y cells slots pn lv (.long (x ||| y) :: st) ws) : J l G R Y cells slots pc lv (.long y :: .long x :: st) ws :=
  fun H locs ls a b c e => lv_lor hX.1 hX.2.1 d (by rw [hp]; exact k H locs ls a b c e)
theorem j_lcmp {x y : Int64} (hX : CX l G cc nL own Y) (d : decode cc pc = .ok (.lcmp, 1)) (pn : Nat) (hp : pc + 1 = pn) (k : J l G R Y cells slots pn lv (.int (lg_cmp x y) :: st) ws) : J l G R Y cells slots pc lv (.long y :: .long x :: st) ws :=
  fun H locs ls a b c e => W.lcmp hX.1 hX.2.1 d (by rw [hp]; exact k H locs ls a b c e)
theorem j_i2l {x : Int32} (hX : CX l G cc nL own Y) (d : decode cc pc = .ok (.i2l, 1)) (pn : Nat) (hp : pc + 1 = pn) (k : J l G R Y cells slots pn lv (.long x.toInt64 :: st) ws) : J l G R Y cells slots pc lv (.int x :: st) ws :=
  fun H locs ls a b c e => lv_i2l hX.1 hX.2.1 d rfl (by rw [hp]; exact k H locs ls a b c e)
theorem j_i2b {x : Int32} (hX : CX l G cc nL own Y) (d : decode cc pc = .ok (.i2b, 1)) (pn : Nat) (hp : pc + 1 = pn) (k : J l G R Y cells slots pn lv (.int x.toInt8.toInt32 :: st) ws) : J l G R Y cells slots pc lv (.int x :: st) ws :=
  fun H locs ls a b c e => lv_i2b hX.1 hX.2.1 d rfl (by rw [hp]; exact k H locs ls a b c e)
theorem j_dup {v : Value} (hX : CX l G cc nL own Y) (d : decode cc pc = .ok (.dup, 1)) (pn : Nat) (hp : pc + 1 = pn) (hv : v.category = 1) (k : J l G R Y cells slots pn lv (v :: v :: st) ws) : J l G R Y cells slots pc lv (v :: st) ws :=
  fun H locs ls a b c e => lv_dup hX.1 hX.2.1 d hv (by rw [hp]; exact k H locs ls a b c e)
theorem j_dup2 {v u : Value} (hX : CX l G cc nL own Y) (d : decode cc pc = .ok (.dup2, 1)) (pn : Nat) (hp : pc + 1 = pn) (hv : v.category = 1) (hu : u.category = 1) (k : J l G R Y cells slots pn lv (v :: u :: v :: u :: st) ws) : J l G R Y cells slots pc lv (v :: u :: st) ws :=
  fun H locs ls a b c e => lv_dup2_11 hX.1 hX.2.1 d hv hu (by rw [hp]; exact k H locs ls a b c e)
theorem j_pop {v : Value} (hX : CX l G cc nL own Y) (d : decode cc pc = .ok (.pop, 1)) (pn : Nat) (hp : pc + 1 = pn) (hv : v.category = 1) (k : J l G R Y cells slots pn lv st ws) : J l G R Y cells slots pc lv (v :: st) ws :=
  fun H locs ls a b c e => lv_pop hX.1 hX.2.1 d hv (by rw [hp]; exact k H locs ls a b c e)
theorem j_goto {off : Int} (hX : CX l G cc nL own Y) (d : decode cc pc = .ok (.goto off, 3)) (tgt : Nat) (ht : (pc : Int) + off = (tgt : Int)) (k : J l G R Y cells slots tgt lv st ws) : J l G R Y cells slots pc lv st ws :=
  fun H locs ls a b c e => lv_goto hX.1 hX.2.1 d ht (k H locs ls a b c e)
theorem j_sub {lv' : List (Nat × Value)} (ks : List Nat) (hl : lv_pick lv ks = lv') (k : J l G R Y cells slots pc lv' st ws) : J l G R Y cells slots pc lv st ws :=
  fun H locs ls a b c e => k H locs ls (lv_sub a ks hl) b c e
theorem j_ws {ws' : va_W} (hw : ws = ws') (k : J l G R Y cells slots pc lv st ws') : J l G R Y cells slots pc lv st ws := by
  subst hw
  exact k
theorem j_widen {k n : Nat} (h1 : cells ≤ k) (h2 : slots ≤ n) (kk : J l G R Y k n pc lv st ws) : J l G R Y cells slots pc lv st ws :=
  fun H locs ls a b c e => W.widen h1 h2 (kk H locs ls a b c e)
end JR
-- PRINTED TAIL
section JB
variable {l : Launch} {G : GT} {R : Room} {Y : YT} {cells slots pc : Nat} {lv : List (Nat × Value)} {st : List Value} {ws : va_W} {cc : ByteArray} {nL : Nat} {own : String}
theorem j_if_eq {x : Int32} {off : Int} (hX : CX l G cc nL own Y) (d : decode cc pc = .ok (.ifCond .eq off, 3)) (pn tgt : Nat) (hp : pc + 3 = pn) (ht : (pc : Int) + off = (tgt : Int)) (kt : x = 0 → J l G R Y cells slots tgt lv st ws) (kf : ¬ x = 0 → J l G R Y cells slots pn lv st ws) : J l G R Y cells slots pc lv (.int x :: st) ws :=
  fun H locs ls a b c e => lv_if_eq hX.1 hX.2.1 d ht (fun h => kt h H locs ls a b c e) (fun h => by rw [hp]; exact kf h H locs ls a b c e)
theorem j_if_ne {x : Int32} {off : Int} (hX : CX l G cc nL own Y) (d : decode cc pc = .ok (.ifCond .ne off, 3)) (pn tgt : Nat) (hp : pc + 3 = pn) (ht : (pc : Int) + off = (tgt : Int)) (kt : ¬ x = 0 → J l G R Y cells slots tgt lv st ws) (kf : x = 0 → J l G R Y cells slots pn lv st ws) : J l G R Y cells slots pc lv (.int x :: st) ws :=
  fun H locs ls a b c e => lv_if_ne hX.1 hX.2.1 d ht (fun h => kt h H locs ls a b c e) (fun h => by rw [hp]; exact kf h H locs ls a b c e)
theorem j_if_lt {x : Int32} {off : Int} (hX : CX l G cc nL own Y) (d : decode cc pc = .ok (.ifCond .lt off, 3)) (pn tgt : Nat) (hp : pc + 3 = pn) (ht : (pc : Int) + off = (tgt : Int)) (kt : x < 0 → J l G R Y cells slots tgt lv st ws) (kf : ¬ x < 0 → J l G R Y cells slots pn lv st ws) : J l G R Y cells slots pc lv (.int x :: st) ws :=
  fun H locs ls a b c e => lv_if_lt hX.1 hX.2.1 d ht (fun h => kt h H locs ls a b c e) (fun h => by rw [hp]; exact kf h H locs ls a b c e)
theorem j_if_ge {x : Int32} {off : Int} (hX : CX l G cc nL own Y) (d : decode cc pc = .ok (.ifCond .ge off, 3)) (pn tgt : Nat) (hp : pc + 3 = pn) (ht : (pc : Int) + off = (tgt : Int)) (kt : 0 ≤ x → J l G R Y cells slots tgt lv st ws) (kf : ¬ 0 ≤ x → J l G R Y cells slots pn lv st ws) : J l G R Y cells slots pc lv (.int x :: st) ws :=
  fun H locs ls a b c e => lv_if_ge hX.1 hX.2.1 d ht (fun h => kt h H locs ls a b c e) (fun h => by rw [hp]; exact kf h H locs ls a b c e)
theorem j_if_gt {x : Int32} {off : Int} (hX : CX l G cc nL own Y) (d : decode cc pc = .ok (.ifCond .gt off, 3)) (pn tgt : Nat) (hp : pc + 3 = pn) (ht : (pc : Int) + off = (tgt : Int)) (kt : 0 < x → J l G R Y cells slots tgt lv st ws) (kf : ¬ 0 < x → J l G R Y cells slots pn lv st ws) : J l G R Y cells slots pc lv (.int x :: st) ws :=
  fun H locs ls a b c e => lv_if_gt hX.1 hX.2.1 d ht (fun h => kt h H locs ls a b c e) (fun h => by rw [hp]; exact kf h H locs ls a b c e)
theorem j_if_le {x : Int32} {off : Int} (hX : CX l G cc nL own Y) (d : decode cc pc = .ok (.ifCond .le off, 3)) (pn tgt : Nat) (hp : pc + 3 = pn) (ht : (pc : Int) + off = (tgt : Int)) (kt : x ≤ 0 → J l G R Y cells slots tgt lv st ws) (kf : ¬ x ≤ 0 → J l G R Y cells slots pn lv st ws) : J l G R Y cells slots pc lv (.int x :: st) ws :=
  fun H locs ls a b c e => lv_if_le hX.1 hX.2.1 d ht (fun h => kt h H locs ls a b c e) (fun h => by rw [hp]; exact kf h H locs ls a b c e)
theorem j_icmp_eq {x y : Int32} {off : Int} (hX : CX l G cc nL own Y) (d : decode cc pc = .ok (.if_icmp .eq off, 3)) (pn tgt : Nat) (hp : pc + 3 = pn) (ht : (pc : Int) + off = (tgt : Int)) (kt : x = y → J l G R Y cells slots tgt lv st ws) (kf : ¬ x = y → J l G R Y cells slots pn lv st ws) : J l G R Y cells slots pc lv (.int y :: .int x :: st) ws :=
  fun H locs ls a b c e => lv_icmp_eq hX.1 hX.2.1 d ht (fun h => kt h H locs ls a b c e) (fun h => by rw [hp]; exact kf h H locs ls a b c e)
theorem j_icmp_ne {x y : Int32} {off : Int} (hX : CX l G cc nL own Y) (d : decode cc pc = .ok (.if_icmp .ne off, 3)) (pn tgt : Nat) (hp : pc + 3 = pn) (ht : (pc : Int) + off = (tgt : Int)) (kt : ¬ x = y → J l G R Y cells slots tgt lv st ws) (kf : x = y → J l G R Y cells slots pn lv st ws) : J l G R Y cells slots pc lv (.int y :: .int x :: st) ws :=
  fun H locs ls a b c e => lv_icmp_ne hX.1 hX.2.1 d ht (fun h => kt h H locs ls a b c e) (fun h => by rw [hp]; exact kf h H locs ls a b c e)
theorem j_icmp_lt {x y : Int32} {off : Int} (hX : CX l G cc nL own Y) (d : decode cc pc = .ok (.if_icmp .lt off, 3)) (pn tgt : Nat) (hp : pc + 3 = pn) (ht : (pc : Int) + off = (tgt : Int)) (kt : x < y → J l G R Y cells slots tgt lv st ws) (kf : ¬ x < y → J l G R Y cells slots pn lv st ws) : J l G R Y cells slots pc lv (.int y :: .int x :: st) ws :=
  fun H locs ls a b c e => lv_icmp_lt hX.1 hX.2.1 d ht (fun h => kt h H locs ls a b c e) (fun h => by rw [hp]; exact kf h H locs ls a b c e)
theorem j_icmp_ge {x y : Int32} {off : Int} (hX : CX l G cc nL own Y) (d : decode cc pc = .ok (.if_icmp .ge off, 3)) (pn tgt : Nat) (hp : pc + 3 = pn) (ht : (pc : Int) + off = (tgt : Int)) (kt : y ≤ x → J l G R Y cells slots tgt lv st ws) (kf : ¬ y ≤ x → J l G R Y cells slots pn lv st ws) : J l G R Y cells slots pc lv (.int y :: .int x :: st) ws :=
  fun H locs ls a b c e => lv_icmp_ge hX.1 hX.2.1 d ht (fun h => kt h H locs ls a b c e) (fun h => by rw [hp]; exact kf h H locs ls a b c e)
theorem j_icmp_gt {x y : Int32} {off : Int} (hX : CX l G cc nL own Y) (d : decode cc pc = .ok (.if_icmp .gt off, 3)) (pn tgt : Nat) (hp : pc + 3 = pn) (ht : (pc : Int) + off = (tgt : Int)) (kt : y < x → J l G R Y cells slots tgt lv st ws) (kf : ¬ y < x → J l G R Y cells slots pn lv st ws) : J l G R Y cells slots pc lv (.int y :: .int x :: st) ws :=
  fun H locs ls a b c e => lv_icmp_gt hX.1 hX.2.1 d ht (fun h => kt h H locs ls a b c e) (fun h => by rw [hp]; exact kf h H locs ls a b c e)
theorem j_icmp_le {x y : Int32} {off : Int} (hX : CX l G cc nL own Y) (d : decode cc pc = .ok (.if_icmp .le off, 3)) (pn tgt : Nat) (hp : pc + 3 = pn) (ht : (pc : Int) + off = (tgt : Int)) (kt : x ≤ y → J l G R Y cells slots tgt lv st ws) (kf : ¬ x ≤ y → J l G R Y cells slots pn lv st ws) : J l G R Y cells slots pc lv (.int y :: .int x :: st) ws :=
  fun H locs ls a b c e => lv_icmp_le hX.1 hX.2.1 d ht (fun h => kt h H locs ls a b c e) (fun h => by rw [hp]; exact kf h H locs ls a b c e)
def FG (own : String) (idx ci k : Nat) : Prop := ∃ (C : String) (T : u_T) (N : Nat), vwCl[ci]? = some (C, T, N) ∧ (∀ w ∈ u_ws C T N, w ∈ TW) ∧ k < N ∧ Cond.fieldLink own idx C (T k).2.1 (T k).2.2.1 ∈ TW ∧ (T k).1 = C
def FN (own : String) (idx ci k : Nat) : Prop := ∃ (C : String) (T : u_T) (N : Nat) (host : String), vwCl[ci]? = some (C, T, N) ∧ (∀ w ∈ u_ws C T N, w ∈ TW) ∧ k < N ∧ Cond.fieldLinkNest own idx C (T k).2.1 (T k).2.2.1 host ∈ EWL ∧ (T k).1 = C
/-- .. and may be stored: the type, the names apart, final or not -/
def FT (ci k : Nat) (ty : FieldType) (fin : Bool) : Prop := ∃ (C : String) (T : u_T) (N : Nat) (ty0 : Nat → FieldType), vwCl[ci]? = some (C, T, N) ∧ (∀ k, k < N → parseFieldDescriptor (T k).2.2.1 = some (ty0 k)) ∧ (∀ a, a < N → ∀ b, b < N → a ≠ b → (T a).2.1 ≠ (T b).2.1) ∧ parseFieldDescriptor (T k).2.2.1 = some ty ∧ (T k).2.2.2 = fin
theorem j_get {idx ci k a : Nat} {fs : List Value} {v : Value} (hX : CX l G cc nL own Y) (d : decode cc pc = .ok (.getfield idx, 3)) (pn : Nat) (hp : pc + 3 = pn) (hF : FG own idx ci k) (q0 : Nat) (he : ws[q0]? = some (a, .inr (ci, fs))) (hv : fs[k]? = some v) (kk : J l G R Y cells slots pn lv (v :: st) ws) : J l G R Y cells slots pc lv (.ref a :: st) ws := by
  obtain ⟨C, T, N, h1, h2, h3, h4, h5⟩ := hF
  exact fun H locs ls x b c e => va_get hX.1 hX.2.1 hX.2.2.2.2.1 h2 hX.2.2.2.1 hX.2.2.2.2.2.1 b q0 he h1 k h3 (hX.2.2.2.2.1 _ h4) (fun y hy => by rw [h5] at hy; exact hy) hv d (by rw [hp]; exact kk H locs ls x b c e)
theorem j_getN {idx ci k a : Nat} {fs : List Value} {v : Value} (hX : CX l G cc nL own Y) (d : decode cc pc = .ok (.getfield idx, 3)) (pn : Nat) (hp : pc + 3 = pn) (hF : FN own idx ci k) (q0 : Nat) (he : ws[q0]? = some (a, .inr (ci, fs))) (hv : fs[k]? = some v) (kk : J l G R Y cells slots pn lv (v :: st) ws) : J l G R Y cells slots pc lv (.ref a :: st) ws := by
  obtain ⟨C, T, N, host, h1, h2, h3, h4, h5⟩ := hF
  exact fun H locs ls x b c e => va_getN hX.1 hX.2.1 hX.2.2.2.2.1 h2 hX.2.2.2.1 hX.2.2.2.2.2.1 b q0 he h1 k h3 (va_Nw.use rfl (hX.2.2.2.2.2.2.2.1.2.1 _ h4)) (fun y hy => by rw [h5] at hy; exact hy) hv d (by rw [hp]; exact kk H locs ls x b c e)
theorem j_put {idx ci k a : Nat} {fs : List Value} {v : Value} {ty : FieldType} (hX : CX l G cc nL own Y) (d : decode cc pc = .ok (.putfield idx, 3)) (pn : Nat) (hp : pc + 3 = pn) (hF : FG own idx ci k) (hT : FT ci k ty false) (q0 : Nat) (he : ws[q0]? = some (a, .inr (ci, fs))) (hn : narrow ty v = v) (hfit : fits ty v = true) (hl : k < fs.length) {ws' : va_W} (hw : ws.set q0 (a, .inr (ci, fs.set k v)) = ws') (kk : J l G R Y cells slots pn lv st ws') : J l G R Y cells slots pc lv (v :: .ref a :: st) ws := by
  obtain ⟨C, T, N, h1, h2, h3, h4, h5⟩ := hF
  obtain ⟨C', T', N', ty0, g1, g2, g3, g4, g5⟩ := hT
  cases Option.some.inj (h1.symm.trans g1)
  subst hw
  exact fun H locs ls x b c e => va_put hX.1 hX.2.1 hX.2.2.2.2.1 h2 ty0 g2 g3 hX.2.2.2.1 hX.2.2.2.2.2.1 b c e q0 he h1 k h3 (hX.2.2.2.2.1 _ h4) (fun y hy => by rw [h5] at hy; exact hy) g5 g4 hn hfit hl d (fun H1 locs1 b1 c1 e1 => by rw [hp]; exact kk H1 locs1 ls x b1 c1 e1)
theorem j_putN {idx ci k a : Nat} {fs : List Value} {v : Value} {ty : FieldType} (hX : CX l G cc nL own Y) (d : decode cc pc = .ok (.putfield idx, 3)) (pn : Nat) (hp : pc + 3 = pn) (hF : FN own idx ci k) (hT : FT ci k ty false) (q0 : Nat) (he : ws[q0]? = some (a, .inr (ci, fs))) (hn : narrow ty v = v) (hfit : fits ty v = true) (hl : k < fs.length) {ws' : va_W} (hw : ws.set q0 (a, .inr (ci, fs.set k v)) = ws') (kk : J l G R Y cells slots pn lv st ws') : J l G R Y cells slots pc lv (v :: .ref a :: st) ws := by
  obtain ⟨C, T, N, host, h1, h2, h3, h4, h5⟩ := hF
  obtain ⟨C', T', N', ty0, g1, g2, g3, g4, g5⟩ := hT
  cases Option.some.inj (h1.symm.trans g1)
  subst hw
  exact fun H locs ls x b c e => va_putN hX.1 hX.2.1 hX.2.2.2.2.1 h2 ty0 g2 g3 hX.2.2.2.1 hX.2.2.2.2.2.1 b c e q0 he h1 k h3 (va_Nw.use rfl (hX.2.2.2.2.2.2.2.1.2.1 _ h4)) (fun y hy => by rw [h5] at hy; exact hy) g5 g4 hn hfit hl d (fun H1 locs1 b1 c1 e1 => by rw [hp]; exact kk H1 locs1 ls x b1 c1 e1)
theorem j_alen {a n : Nat} {cA : ClassId} {x : vp_A} {v : Int32} {ty : FieldType} (hX : CX l G cc nL own Y) (d : decode cc pc = .ok (.arraylength, 1)) (pn : Nat) (hp : pc + 1 = pn) (q0 t0 : Nat) (ha : ws[q0]? = some (a, .inl (cA, x))) (ht : (tyl (gct G))[t0]? = some (cA, ty)) (hv : Int32.ofNat x.1 = v) (kk : J l G R Y cells slots pn lv (.int v :: st) ws) : J l G R Y cells slots pc lv (.ref a :: st) ws :=
  fun H locs ls x b c e => va_alen hX.1 hX.2.1 hX.2.2.2.2.2.1 b q0 t0 ha ht hv d (by rw [hp]; exact kk H locs ls x b c e)
theorem j_iald {a n : Nat} {f : Nat → Int32} {i : Int32} (hX : CX l G cc nL own Y) (d : decode cc pc = .ok (.iaload, 1)) (pn : Nat) (hp : pc + 1 = pn) (q0 : Nat) (ha : ws[q0]? = some (a, .inl (gct G 1, n, .inl f))) (hin : inb i n = true) (kk : J l G R Y cells slots pn lv (.int (f i.toNatClampNeg) :: st) ws) : J l G R Y cells slots pc lv (.int i :: .ref a :: st) ws :=
  fun H locs ls x b c e => va_iald hX.1 hX.2.1 hX.2.2.2.2.2.1 b q0 1 ha rfl (inb_in hin) d (by rw [hp]; exact kk H locs ls x b c e)
theorem j_bald {a n : Nat} {f : Nat → Int32} {i : Int32} (hX : CX l G cc nL own Y) (d : decode cc pc = .ok (.baload, 1)) (pn : Nat) (hp : pc + 1 = pn) (q0 : Nat) (ha : ws[q0]? = some (a, .inl (gct G 2, n, .inl f))) (hin : inb i n = true) (kk : J l G R Y cells slots pn lv (.int (f i.toNatClampNeg) :: st) ws) : J l G R Y cells slots pc lv (.int i :: .ref a :: st) ws :=
  fun H locs ls x b c e => va_bald hX.1 hX.2.1 hX.2.2.2.2.2.1 b q0 2 ha rfl (inb_in hin) d (by rw [hp]; exact kk H locs ls x b c e)
theorem j_zald {a n : Nat} {f : Nat → Int32} {i : Int32} (hX : CX l G cc nL own Y) (d : decode cc pc = .ok (.baload, 1)) (pn : Nat) (hp : pc + 1 = pn) (q0 : Nat) (ha : ws[q0]? = some (a, .inl (gct G 0, n, .inl f))) (hin : inb i n = true) (kk : J l G R Y cells slots pn lv (.int (f i.toNatClampNeg) :: st) ws) : J l G R Y cells slots pc lv (.int i :: .ref a :: st) ws :=
  fun H locs ls x b c e => va_zald hX.1 hX.2.1 hX.2.2.2.2.2.1 b q0 0 ha rfl (inb_in hin) d (by rw [hp]; exact kk H locs ls x b c e)
theorem j_iast {a n : Nat} {f : Nat → Int32} {i x : Int32} (hX : CX l G cc nL own Y) (d : decode cc pc = .ok (.iastore, 1)) (pn : Nat) (hp : pc + 1 = pn) (q0 : Nat) (ha : ws[q0]? = some (a, .inl (gct G 1, n, .inl f))) (hin : inb i n = true) {ws' : va_W} (hw : ws.set q0 (a, .inl (gct G 1, n, .inl (upd f i.toNatClampNeg x))) = ws') (kk : J l G R Y cells slots pn lv st ws') : J l G R Y cells slots pc lv (.int x :: .int i :: .ref a :: st) ws := by
  subst hw
  exact fun H locs ls x b c e => va_iast hX.1 hX.2.1 hX.2.2.2.2.2.1 b c e q0 1 ha rfl (inb_in hin) d (fun H1 locs1 b1 c1 e1 => by rw [hp]; exact kk H1 locs1 ls x b1 c1 e1)
theorem j_bast {a n : Nat} {f : Nat → Int32} {i x : Int32} (hX : CX l G cc nL own Y) (d : decode cc pc = .ok (.bastore, 1)) (pn : Nat) (hp : pc + 1 = pn) (q0 : Nat) (ha : ws[q0]? = some (a, .inl (gct G 2, n, .inl f))) (hin : inb i n = true) {ws' : va_W} (hw : ws.set q0 (a, .inl (gct G 2, n, .inl (upd f i.toNatClampNeg (vp_nar .byte x)))) = ws') (kk : J l G R Y cells slots pn lv st ws') : J l G R Y cells slots pc lv (.int x :: .int i :: .ref a :: st) ws := by
  subst hw
  exact fun H locs ls x b c e => va_bast hX.1 hX.2.1 hX.2.2.2.2.2.1 b c e q0 2 ha rfl (inb_in hin) d (fun H1 locs1 b1 c1 e1 => by rw [hp]; exact kk H1 locs1 ls x b1 c1 e1)
theorem j_zast {a n : Nat} {f : Nat → Int32} {i x : Int32} (hX : CX l G cc nL own Y) (d : decode cc pc = .ok (.bastore, 1)) (pn : Nat) (hp : pc + 1 = pn) (q0 : Nat) (ha : ws[q0]? = some (a, .inl (gct G 0, n, .inl f))) (hin : inb i n = true) {ws' : va_W} (hw : ws.set q0 (a, .inl (gct G 0, n, .inl (upd f i.toNatClampNeg (vp_nar .boolean x)))) = ws') (kk : J l G R Y cells slots pn lv st ws') : J l G R Y cells slots pc lv (.int x :: .int i :: .ref a :: st) ws := by
  subst hw
  exact fun H locs ls x b c e => va_zast hX.1 hX.2.1 hX.2.2.2.2.2.1 b c e q0 0 ha rfl (inb_in hin) d (fun H1 locs1 b1 c1 e1 => by rw [hp]; exact kk H1 locs1 ls x b1 c1 e1)
theorem j_lald {a n : Nat} {f : Nat → Int64} {i : Int32} (hX : CX l G cc nL own Y) (d : decode cc pc = .ok (.laload, 1)) (pn : Nat) (hp : pc + 1 = pn) (q0 : Nat) (ha : ws[q0]? = some (a, .inl (gct G 3, n, .inr (.inl f)))) (hin : inb i n = true) (kk : J l G R Y cells slots pn lv (.long (f i.toNatClampNeg) :: st) ws) : J l G R Y cells slots pc lv (.int i :: .ref a :: st) ws :=
  fun H locs ls x b c e => va_lald hX.1 hX.2.1 hX.2.2.2.2.2.1 b q0 3 ha rfl (inb_in hin) d (by rw [hp]; exact kk H locs ls x b c e)
theorem j_last {a n : Nat} {f : Nat → Int64} {i : Int32} {x : Int64} (hX : CX l G cc nL own Y) (d : decode cc pc = .ok (.lastore, 1)) (pn : Nat) (hp : pc + 1 = pn) (q0 : Nat) (ha : ws[q0]? = some (a, .inl (gct G 3, n, .inr (.inl f)))) (hin : inb i n = true) {ws' : va_W} (hw : ws.set q0 (a, .inl (gct G 3, n, .inr (.inl (vp_updL f i.toNatClampNeg x)))) = ws') (kk : J l G R Y cells slots pn lv st ws') : J l G R Y cells slots pc lv (.long x :: .int i :: .ref a :: st) ws := by
  subst hw
  exact fun H locs ls x b c e => va_last hX.1 hX.2.1 hX.2.2.2.2.2.1 b c e q0 3 ha rfl (inb_in hin) d (fun H1 locs1 b1 c1 e1 => by rw [hp]; exact kk H1 locs1 ls x b1 c1 e1)
theorem j_lstore_n {i : Nat} {x : Int64} {z : Fin 4} {lv' : List (Nat × Value)} (hX : CX l G cc nL own Y) (d : decode cc pc = .ok (.lstore_n z, 1)) (pn : Nat) (hp : pc + 1 = pn) (hz : (z : Nat) = i) (hn : i + 1 < nL) (hl : (i, Value.long x) :: lv.filter (fun q => !(q.1 == i) && (!(q.1 == i + 1) && !(q.1 + 1 == i && q.2.category == 2))) = lv') (k : J l G R Y cells slots pn lv' st ws) : J l G R Y cells slots pc lv (.long x :: st) ws :=
  fun H locs ls a b c e => lv_lstore_n hX.1 hX.2.1 d hz a (by rw [hX.2.2.1]; exact hn) hl (fun ls' a' => by rw [hp]; exact k H locs ls' a' b c e)
theorem j_lstore {i : Nat} {x : Int64} {lv' : List (Nat × Value)} (hX : CX l G cc nL own Y) (d : decode cc pc = .ok (.lstore i, 2)) (pn : Nat) (hp : pc + 2 = pn) (hn : i + 1 < nL) (hl : (i, Value.long x) :: lv.filter (fun q => !(q.1 == i) && (!(q.1 == i + 1) && !(q.1 + 1 == i && q.2.category == 2))) = lv') (k : J l G R Y cells slots pn lv' st ws) : J l G R Y cells slots pc lv (.long x :: st) ws :=
  fun H locs ls a b c e => lv_lstore hX.1 hX.2.1 d a (by rw [hX.2.2.1]; exact hn) hl (fun ls' a' => by rw [hp]; exact k H locs ls' a' b c e)
end JB
