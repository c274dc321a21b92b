/-! the small machine's heap: a list of cells; cell k lies at h0 + k; references from 1000000 on name old arrays (statics, the script) that nobody writes -/
abbrev mm_E : Type := (FieldType × vp_A) ⊕ (Nat × List Value)
abbrev mm_W : Type := List mm_E
def mm_rho (h0 : Nat) (sa : Nat → Nat) (k : Nat) : Nat := if k < 1000000 then h0 + k else sa (k - 1000000)
def mm_re (ρ : Nat → Nat) (cA : FieldType → ClassId) (E : mm_E) : va_E := match E with
  | .inl (ty, a) => .inl (cA ty, a)
  | .inr (ci, fs) => .inr (ci, fs.map (mm_rv ρ))
def mm_ws (ρ : Nat → Nat) (cA : FieldType → ClassId) (h0 : Nat) (w : mm_W) : va_W := w.mapIdx (fun k E => (h0 + k, mm_re ρ cA E))
theorem mm_ws_get {ρ : Nat → Nat} {cA : FieldType → ClassId} {h0 k : Nat} {w : mm_W} {E : mm_E} (h : w[k]? = some E) : (mm_ws ρ cA h0 w)[k]? = some (h0 + k, mm_re ρ cA E) := by
  simp [mm_ws, List.getElem?_mapIdx, h]
theorem mm_ws_set {ρ : Nat → Nat} {cA : FieldType → ClassId} {h0 k : Nat} {w : mm_W} {E : mm_E} : (mm_ws ρ cA h0 w).set k (h0 + k, mm_re ρ cA E) = mm_ws ρ cA h0 (w.set k E) := by
  apply List.ext_getElem?
  intro j
  simp only [mm_ws, List.getElem?_set, List.getElem?_mapIdx, List.length_mapIdx]
  by_cases hj : k = j
  · subst hj
    by_cases hl : k < w.length <;> simp [hl]
  · simp [hj]
theorem mm_ws_push {ρ : Nat → Nat} {cA : FieldType → ClassId} {h0 : Nat} {w : mm_W} {E : mm_E} : mm_ws ρ cA h0 (w ++ [E]) = mm_ws ρ cA h0 w ++ [(h0 + w.length, mm_re ρ cA E)] := by
  simp [mm_ws, List.mapIdx_append]
theorem mm_ws_D {ρ : Nat → Nat} {cA : FieldType → ClassId} {h0 : Nat} {w : mm_W} : va_D (fun q => h0 ≤ q) (mm_ws ρ cA h0 w) := by
  refine ⟨fun i j x y hx hy hxy => ?_, fun k q hq => ?_⟩
  · simp only [mm_ws, List.getElem?_mapIdx, Option.map_eq_some_iff] at hx hy
    obtain ⟨a, -, rfl⟩ := hx
    obtain ⟨b, -, rfl⟩ := hy
    dsimp only at hxy
    omega
  · simp only [mm_ws, List.getElem?_mapIdx, Option.map_eq_some_iff] at hq
    obtain ⟨a, -, rfl⟩ := hq
    exact Nat.le_add_right _ _
/-- the heap H holds the world w -/
def mm_Hp (D : va_G) (cl : List vw_C) (ρ : Nat → Nat) (cA : FieldType → ClassId) (h0 : Nat) (w : mm_W) (H : Heap) : Prop := va_P D cl (mm_ws ρ cA h0 w) H ∧ H.size = h0 + w.length
/-- how many slots a cell has -/
def mm_sz (cl : List vw_C) (E : mm_E) : Nat := match E with
  | .inl (_, a) => a.1
  | .inr (_, fs) => fs.length
abbrev mm_A (h0 : Nat) : Nat → Prop := fun q => h0 ≤ q
section MW
variable {p : Program} {l : Launch} {e : Env} {R : Room} {s : State} {m : MethodId} {args : Array Value} {below : List Frame} {meth : Method} {c : Code} {H : Heap} {locs : List Loc} {cells slots : Nat} {Q : State → Prop}
theorem mm_size {g : JFrame} (k : H.size ≤ s.heap.size + cells → W p l e R s m args below meth c H locs cells slots Q g) : W p l e R s m args below meth c H locs cells slots Q g := fun T hT X => k (by rw [← hT]; exact X.heapSize) T hT X
variable {cc : ByteArray} {pc nL : Nat} {ρ : Nat → Nat} {ls : Array Slot} {rest : List Value} {D : va_G} {cl : List vw_C} {cA : FieldType → ClassId} {h0 : Nat} {w : mm_W} {tys : List (ClassId × FieldType)}
/-- the walk's standing facts on heap and frame -/
def mm_St (D : va_G) (cl : List vw_C) (ρ : Nat → Nat) (cA : FieldType → ClassId) (h0 : Nat) (s : State) (w : mm_W) (H : Heap) (locs : List Loc) (cells : Nat) : Prop :=
  mm_Hp D cl ρ cA h0 w H ∧ va_S (mm_A h0) s.heap H locs ∧ s.heap.size + cells = H.size ∧ h0 ≤ s.heap.size
theorem mm_get {own ref C : String} {T : u_T} {N ci index : Nat} {Ts : List Cond} (hexec : p.tables.exec = Jvm.exec) (hb : c.code = cc) (hts : ∀ w ∈ Ts, w.before args s = true) (hin : ∀ w ∈ u_ws C T N, w ∈ Ts) (hown : s.vm.findClass own = some m.cls) (hK : va_K D cl tys s)
    (hH : mm_St D cl ρ cA h0 s w H locs cells) {k j : Nat} {fs : List Value} (he : w[k]? = some (.inr (ci, fs))) (hc : cl[ci]? = some (C, T, N)) (hk : j < N) (hlink : (Cond.fieldLink own index ref (T j).2.1 (T j).2.2.1).before args s = true) (hsame : ∀ x, s.fieldFound? (T j).1 (T j).2.1 (T j).2.2.1 = some x → s.fieldFound? ref (T j).2.1 (T j).2.2.1 = some x)
    {v : Value} (hv : fs[j]? = some v) (hdg : decode cc pc = .ok (.getfield index, 3))
    (kk : W p l e R s m args below meth c H locs cells slots Q (F0 m (pc + 3) ls (mm_rv ρ v :: rest))) : W p l e R s m args below meth c H locs cells slots Q (F0 m pc ls (.ref (h0 + k) :: rest)) :=
  va_get hexec hb hts hin hown hK hH.1.1 k (mm_ws_get he) hc j hk hlink hsame (by rw [List.getElem?_map, hv]; rfl) hdg kk
theorem mm_getN {own ref C host : String} {T : u_T} {N ci index : Nat} {Ts : List Cond} (hexec : p.tables.exec = Jvm.exec) (hb : c.code = cc) (hts : ∀ w ∈ Ts, w.before args s = true) (hin : ∀ w ∈ u_ws C T N, w ∈ Ts) (hown : s.vm.findClass own = some m.cls) (hK : va_K D cl tys s)
    (hH : mm_St D cl ρ cA h0 s w H locs cells) {k j : Nat} {fs : List Value} (he : w[k]? = some (.inr (ci, fs))) (hc : cl[ci]? = some (C, T, N)) (hk : j < N) (hlink : (Cond.fieldLinkNest own index ref (T j).2.1 (T j).2.2.1 host).before args s = true) (hsame : ∀ x, s.fieldFound? (T j).1 (T j).2.1 (T j).2.2.1 = some x → s.fieldFound? ref (T j).2.1 (T j).2.2.1 = some x)
    {v : Value} (hv : fs[j]? = some v) (hdg : decode cc pc = .ok (.getfield index, 3))
    (kk : W p l e R s m args below meth c H locs cells slots Q (F0 m (pc + 3) ls (mm_rv ρ v :: rest))) : W p l e R s m args below meth c H locs cells slots Q (F0 m pc ls (.ref (h0 + k) :: rest)) :=
  va_getN hexec hb hts hin hown hK hH.1.1 k (mm_ws_get he) hc j hk hlink hsame (by rw [List.getElem?_map, hv]; rfl) hdg kk
theorem mm_ge {H1 : Heap} (h : va_P D cl (mm_ws ρ cA h0 w) H1) (hn : 0 < w.length) : h0 + w.length ≤ H1.size := by
  obtain ⟨E, hE⟩ : ∃ E, w[w.length - 1]? = some E := ⟨_, List.getElem?_eq_getElem (by omega)⟩
  have := (h _ _ (mm_ws_get (ρ := ρ) (cA := cA) (h0 := h0) hE)).lt
  dsimp only at this
  omega
/-- a store of the kit's kind, read back as one of ours -/
theorem mm_stored {g : JFrame} {k : Nat} {E : mm_E} (hH : mm_St D cl ρ cA h0 s w H locs cells) (hk : k < w.length) {H1 : Heap} {locs1 : List Loc} (h1 : va_P D cl ((mm_ws ρ cA h0 w).set k (h0 + k, mm_re ρ cA E)) H1) (h2 : va_S (mm_A h0) s.heap H1 locs1)
    (kk : mm_St D cl ρ cA h0 s (w.set k E) H1 locs1 cells → W p l e R s m args below meth c H1 locs1 cells slots Q g) : W p l e R s m args below meth c H1 locs1 cells slots Q g := by
  rw [mm_ws_set] at h1
  have hge := mm_ge h1 (by rw [List.length_set]; omega)
  rw [List.length_set] at hge
  have e1 := hH.1.2
  have e2 := hH.2.2.1
  refine mm_size fun hle => kk ⟨⟨h1, ?_⟩, h2, ?_, hH.2.2.2⟩
  · rw [List.length_set]; omega
  · omega
theorem mm_put {own ref C : String} {T : u_T} {N ci index : Nat} {Ts : List Cond} (hexec : p.tables.exec = Jvm.exec) (hb : c.code = cc) (hts : ∀ w ∈ Ts, w.before args s = true) (hin : ∀ w ∈ u_ws C T N, w ∈ Ts) (ty0 : Nat → FieldType) (hty : ∀ k, k < N → parseFieldDescriptor (T k).2.2.1 = some (ty0 k)) (hnm : ∀ a, a < N → ∀ b, b < N → a ≠ b → (T a).2.1 ≠ (T b).2.1) (hown : s.vm.findClass own = some m.cls) (hK : va_K D cl tys s)
    (hH : mm_St D cl ρ cA h0 s w H locs cells) {k j : Nat} {fs : List Value} (he : w[k]? = some (.inr (ci, fs))) (hc : cl[ci]? = some (C, T, N)) (hk : j < N) (hlink : (Cond.fieldLink own index ref (T j).2.1 (T j).2.2.1).before args s = true) (hsame : ∀ x, s.fieldFound? (T j).1 (T j).2.1 (T j).2.2.1 = some x → s.fieldFound? ref (T j).2.1 (T j).2.2.1 = some x)
    (hfin : (T j).2.2.2 = false ∨ (meth.name = "<init>" ∧ (T j).1 = own)) {v : Value} (hn : narrow (ty0 j) (mm_rv ρ v) = mm_rv ρ v) (hfit : fits (ty0 j) (mm_rv ρ v) = true) (hl : j < fs.length) (hdg : decode cc pc = .ok (.putfield index, 3))
    (kk : ∀ (H1 : Heap) (locs1 : List Loc), mm_St D cl ρ cA h0 s (w.set k (.inr (ci, fs.set j v))) H1 locs1 cells → W p l e R s m args below meth c H1 locs1 cells slots Q (F0 m (pc + 3) ls rest)) : W p l e R s m args below meth c H locs cells slots Q (F0 m pc ls (mm_rv ρ v :: .ref (h0 + k) :: rest)) := by
  have hkw : k < w.length := (List.getElem?_eq_some_iff.mp he).1
  have key : ∀ (H1 : Heap) (locs1 : List Loc), va_P D cl ((mm_ws ρ cA h0 w).set k (h0 + k, .inr (ci, (fs.map (mm_rv ρ)).set j (mm_rv ρ v)))) H1 → va_D (mm_A h0) ((mm_ws ρ cA h0 w).set k (h0 + k, .inr (ci, (fs.map (mm_rv ρ)).set j (mm_rv ρ v)))) → va_S (mm_A h0) s.heap H1 locs1 → W p l e R s m args below meth c H1 locs1 cells slots Q (F0 m (pc + 3) ls rest) := by
    intro H1 locs1 h1 _ h3
    refine mm_stored (E := .inr (ci, fs.set j v)) hH hkw ?_ h3 (kk H1 locs1)
    rw [← List.map_set] at h1
    exact h1
  by_cases hf : (T j).2.2.2 = false
  · exact va_put hexec hb hts hin ty0 hty hnm hown hK hH.1.1 mm_ws_D hH.2.1 k (mm_ws_get he) hc j hk hlink hsame hf (hty j hk) hn hfit (by rw [List.length_map]; exact hl) hdg key
  · have hf' : (T j).2.2.2 = true := by simpa using hf
    rcases hfin with h | ⟨h1, h2⟩
    · exact absurd h hf
    · exact va_putF hexec hb hts hin ty0 hty hnm hown hK hH.1.1 mm_ws_D hH.2.1 k (mm_ws_get he) hc j hk hlink hsame hf' h1 h2 (hty j hk) hn hfit (by rw [List.length_map]; exact hl) hdg key
theorem mm_putN {own ref C host : String} {T : u_T} {N ci index : Nat} {Ts : List Cond} (hexec : p.tables.exec = Jvm.exec) (hb : c.code = cc) (hts : ∀ w ∈ Ts, w.before args s = true) (hin : ∀ w ∈ u_ws C T N, w ∈ Ts) (ty0 : Nat → FieldType) (hty : ∀ k, k < N → parseFieldDescriptor (T k).2.2.1 = some (ty0 k)) (hnm : ∀ a, a < N → ∀ b, b < N → a ≠ b → (T a).2.1 ≠ (T b).2.1) (hown : s.vm.findClass own = some m.cls) (hK : va_K D cl tys s)
    (hH : mm_St D cl ρ cA h0 s w H locs cells) {k j : Nat} {fs : List Value} (he : w[k]? = some (.inr (ci, fs))) (hc : cl[ci]? = some (C, T, N)) (hk : j < N) (hlink : (Cond.fieldLinkNest own index ref (T j).2.1 (T j).2.2.1 host).before args s = true) (hsame : ∀ x, s.fieldFound? (T j).1 (T j).2.1 (T j).2.2.1 = some x → s.fieldFound? ref (T j).2.1 (T j).2.2.1 = some x)
    (hfin : (T j).2.2.2 = false) {v : Value} (hn : narrow (ty0 j) (mm_rv ρ v) = mm_rv ρ v) (hfit : fits (ty0 j) (mm_rv ρ v) = true) (hl : j < fs.length) (hdg : decode cc pc = .ok (.putfield index, 3))
    (kk : ∀ (H1 : Heap) (locs1 : List Loc), mm_St D cl ρ cA h0 s (w.set k (.inr (ci, fs.set j v))) H1 locs1 cells → W p l e R s m args below meth c H1 locs1 cells slots Q (F0 m (pc + 3) ls rest)) : W p l e R s m args below meth c H locs cells slots Q (F0 m pc ls (mm_rv ρ v :: .ref (h0 + k) :: rest)) := by
  have hkw : k < w.length := (List.getElem?_eq_some_iff.mp he).1
  refine va_putN hexec hb hts hin ty0 hty hnm hown hK hH.1.1 mm_ws_D hH.2.1 k (mm_ws_get he) hc j hk hlink hsame hfin (hty j hk) hn hfit (by rw [List.length_map]; exact hl) hdg (fun H1 locs1 h1 _ h3 => ?_)
  refine mm_stored (E := .inr (ci, fs.set j v)) hH hkw ?_ h3 (kk H1 locs1)
  rw [← List.map_set] at h1
  exact h1
abbrev mm_tys (cA : FieldType → ClassId) : List (ClassId × FieldType) := [(cA .int, .int), (cA .byte, .byte), (cA .long, .long)]
theorem mm_iald (hexec : p.tables.exec = Jvm.exec) (hb : c.code = cc) (hK : va_K D cl (mm_tys cA) s) (hH : mm_St D cl ρ cA h0 s w H locs cells) {k n : Nat} {f : Nat → Int32} (he : w[k]? = some (.inl (.int, n, .inl f))) {i : Int32} (hi : vp_in i n) (hdg : decode cc pc = .ok (.iaload, 1))
    (kk : W p l e R s m args below meth c H locs cells slots Q (F0 m (pc + 1) ls (.int (f i.toNatClampNeg) :: rest))) : W p l e R s m args below meth c H locs cells slots Q (F0 m pc ls (.int i :: .ref (h0 + k) :: rest)) :=
  va_iald hexec hb hK hH.1.1 k 0 (mm_ws_get he) rfl hi hdg kk
theorem mm_bald (hexec : p.tables.exec = Jvm.exec) (hb : c.code = cc) (hK : va_K D cl (mm_tys cA) s) (hH : mm_St D cl ρ cA h0 s w H locs cells) {k n : Nat} {f : Nat → Int32} (he : w[k]? = some (.inl (.byte, n, .inl f))) {i : Int32} (hi : vp_in i n) (hdg : decode cc pc = .ok (.baload, 1))
    (kk : W p l e R s m args below meth c H locs cells slots Q (F0 m (pc + 1) ls (.int (f i.toNatClampNeg) :: rest))) : W p l e R s m args below meth c H locs cells slots Q (F0 m pc ls (.int i :: .ref (h0 + k) :: rest)) :=
  va_bald hexec hb hK hH.1.1 k 1 (mm_ws_get he) rfl hi hdg kk
theorem mm_lald (hexec : p.tables.exec = Jvm.exec) (hb : c.code = cc) (hK : va_K D cl (mm_tys cA) s) (hH : mm_St D cl ρ cA h0 s w H locs cells) {k n : Nat} {f : Nat → Int64} (he : w[k]? = some (.inl (.long, n, .inr (.inl f)))) {i : Int32} (hi : vp_in i n) (hdg : decode cc pc = .ok (.laload, 1))
    (kk : W p l e R s m args below meth c H locs cells slots Q (F0 m (pc + 1) ls (.long (f i.toNatClampNeg) :: rest))) : W p l e R s m args below meth c H locs cells slots Q (F0 m pc ls (.int i :: .ref (h0 + k) :: rest)) :=
  va_lald hexec hb hK hH.1.1 k 2 (mm_ws_get he) rfl hi hdg kk
theorem mm_iast (hexec : p.tables.exec = Jvm.exec) (hb : c.code = cc) (hK : va_K D cl (mm_tys cA) s) (hH : mm_St D cl ρ cA h0 s w H locs cells) {k n : Nat} {f : Nat → Int32} (he : w[k]? = some (.inl (.int, n, .inl f))) {i x : Int32} (hi : vp_in i n) (hdg : decode cc pc = .ok (.iastore, 1))
    (kk : ∀ (H1 : Heap) (locs1 : List Loc), mm_St D cl ρ cA h0 s (w.set k (.inl (.int, n, .inl (upd f i.toNatClampNeg x)))) H1 locs1 cells → W p l e R s m args below meth c H1 locs1 cells slots Q (F0 m (pc + 1) ls rest)) : W p l e R s m args below meth c H locs cells slots Q (F0 m pc ls (.int x :: .int i :: .ref (h0 + k) :: rest)) := by
  have hkw : k < w.length := (List.getElem?_eq_some_iff.mp he).1
  exact va_iast hexec hb hK hH.1.1 mm_ws_D hH.2.1 k 0 (mm_ws_get he) rfl hi hdg (fun H1 locs1 h1 _ h3 => mm_stored (E := .inl (.int, n, .inl (upd f i.toNatClampNeg x))) hH hkw h1 h3 (kk H1 locs1))
theorem mm_bast (hexec : p.tables.exec = Jvm.exec) (hb : c.code = cc) (hK : va_K D cl (mm_tys cA) s) (hH : mm_St D cl ρ cA h0 s w H locs cells) {k n : Nat} {f : Nat → Int32} (he : w[k]? = some (.inl (.byte, n, .inl f))) {i x : Int32} (hi : vp_in i n) (hdg : decode cc pc = .ok (.bastore, 1))
    (kk : ∀ (H1 : Heap) (locs1 : List Loc), mm_St D cl ρ cA h0 s (w.set k (.inl (.byte, n, .inl (upd f i.toNatClampNeg (vp_nar .byte x))))) H1 locs1 cells → W p l e R s m args below meth c H1 locs1 cells slots Q (F0 m (pc + 1) ls rest)) : W p l e R s m args below meth c H locs cells slots Q (F0 m pc ls (.int x :: .int i :: .ref (h0 + k) :: rest)) := by
  have hkw : k < w.length := (List.getElem?_eq_some_iff.mp he).1
  exact va_bast hexec hb hK hH.1.1 mm_ws_D hH.2.1 k 1 (mm_ws_get he) rfl hi hdg (fun H1 locs1 h1 _ h3 => mm_stored (E := .inl (.byte, n, .inl (upd f i.toNatClampNeg (vp_nar .byte x)))) hH hkw h1 h3 (kk H1 locs1))
theorem mm_last (hexec : p.tables.exec = Jvm.exec) (hb : c.code = cc) (hK : va_K D cl (mm_tys cA) s) (hH : mm_St D cl ρ cA h0 s w H locs cells) {k n : Nat} {f : Nat → Int64} (he : w[k]? = some (.inl (.long, n, .inr (.inl f)))) {i : Int32} {x : Int64} (hi : vp_in i n) (hdg : decode cc pc = .ok (.lastore, 1))
    (kk : ∀ (H1 : Heap) (locs1 : List Loc), mm_St D cl ρ cA h0 s (w.set k (.inl (.long, n, .inr (.inl (vp_updL f i.toNatClampNeg x))))) H1 locs1 cells → W p l e R s m args below meth c H1 locs1 cells slots Q (F0 m (pc + 1) ls rest)) : W p l e R s m args below meth c H locs cells slots Q (F0 m pc ls (.long x :: .int i :: .ref (h0 + k) :: rest)) := by
  have hkw : k < w.length := (List.getElem?_eq_some_iff.mp he).1
  exact va_last hexec hb hK hH.1.1 mm_ws_D hH.2.1 k 2 (mm_ws_get he) rfl hi hdg (fun H1 locs1 h1 _ h3 => mm_stored (E := .inl (.long, n, .inr (.inl (vp_updL f i.toNatClampNeg x)))) hH hkw h1 h3 (kk H1 locs1))
theorem mm_ty {ty : FieldType} (hK : va_K D cl (mm_tys cA) s) (ht : ty = .int ∨ ty = .byte ∨ ty = .long) : ∃ t0 : Nat, (mm_tys cA)[t0]? = some (cA ty, ty) := by
  rcases ht with rfl | rfl | rfl
  · exact ⟨0, rfl⟩
  · exact ⟨1, rfl⟩
  · exact ⟨2, rfl⟩
theorem mm_alen (hexec : p.tables.exec = Jvm.exec) (hb : c.code = cc) (hK : va_K D cl (mm_tys cA) s) (hH : mm_St D cl ρ cA h0 s w H locs cells) {k : Nat} {ty : FieldType} {x : vp_A} (he : w[k]? = some (.inl (ty, x))) (ht : ty = .int ∨ ty = .byte ∨ ty = .long) (hdg : decode cc pc = .ok (.arraylength, 1))
    (kk : W p l e R s m args below meth c H locs cells slots Q (F0 m (pc + 1) ls (.int (Int32.ofNat x.1) :: rest))) : W p l e R s m args below meth c H locs cells slots Q (F0 m pc ls (.ref (h0 + k) :: rest)) := by
  obtain ⟨t0, h0'⟩ := mm_ty (D := D) (cl := cl) hK ht
  exact va_alen hexec hb hK hH.1.1 k t0 (mm_ws_get he) h0' rfl hdg kk
/-- what the kit makes is the next cell -/
theorem mm_made {g : Nat → JFrame} {E : mm_E} (hH : mm_St D cl ρ cA h0 s w H locs cells) {q n : Nat} {H1 : Heap} (h1 : va_P D cl (mm_ws ρ cA h0 w ++ [(q, mm_re ρ cA E)]) H1) (h2 : va_D (mm_A h0) (mm_ws ρ cA h0 w ++ [(q, mm_re ρ cA E)])) (h3 : va_S (mm_A h0) s.heap H1 locs)
    (kk : mm_St D cl ρ cA h0 s (w ++ [E]) H1 locs (cells + 1) → W p l e R s m args below meth c H1 locs (cells + 1) n Q (g (h0 + w.length))) : W p l e R s m args below meth c H1 locs (cells + 1) n Q (g q) := by
  have e1 := hH.1.2
  have e2 := hH.2.2.1
  have hlen : (mm_ws ρ cA h0 w).length = w.length := by simp [mm_ws]
  have hq : (mm_ws ρ cA h0 w ++ [(q, mm_re ρ cA E)])[w.length]? = some (q, mm_re ρ cA E) := by
    rw [List.getElem?_append_right (by omega), hlen, Nat.sub_self]; rfl
  have hlt : q < H1.size := (h1 _ _ hq).lt
  have hA : h0 ≤ q := h2.2 _ _ hq
  have hold : h0 + w.length ≤ q := by
    apply Nat.le_of_not_lt
    intro hc
    obtain ⟨F, hF⟩ : ∃ F, w[q - h0]? = some F := ⟨_, List.getElem?_eq_getElem (by omega)⟩
    have h4 : (mm_ws ρ cA h0 w ++ [(q, mm_re ρ cA E)])[q - h0]? = some (h0 + (q - h0), mm_re ρ cA F) := by
      rw [List.getElem?_append_left (by omega)]
      exact mm_ws_get hF
    have h5 := h2.1 _ _ _ _ h4 hq (by show h0 + (q - h0) = q; omega)
    omega
  refine mm_size fun hle => ?_
  have hqe : q = h0 + w.length := by omega
  subst hqe
  rw [← mm_ws_push] at h1
  exact kk ⟨⟨h1, by rw [List.length_append, List.length_singleton]; omega⟩, h3, by omega, hH.2.2.2⟩
theorem mm_new {own C : String} {T : u_T} {N ci index : Nat} {Ts : List Cond} (hexec : p.tables.exec = Jvm.exec) (hb : c.code = cc) (hts : ∀ w ∈ Ts, w.before args s = true) (hin : ∀ w ∈ u_ws C T N, w ∈ Ts) (ty : Nat → FieldType) (hty : ∀ k, k < N → parseFieldDescriptor (T k).2.2.1 = some (ty k)) (hown : s.vm.findClass own = some m.cls) (hcl : (Cond.classLink own index C).before args s = true) (hinst : (Cond.instantiable C N).before args s = true) (hini : (Cond.initialized C).before args s = true)
    (hK : va_K D cl tys s) (hH : mm_St D cl ρ cA h0 s w H locs cells) (hc : cl[ci]? = some (C, T, N)) {fs : List Value} (hfs : ∀ j, j < N → defaultValue (ty j) = vp_V (fs.map (mm_rv ρ)) j) (hcells : cells + 1 ≤ R.cells) (hslots : slots + N ≤ R.slots) (hdg : decode cc pc = .ok (.new index, 3))
    (kk : ∀ H1 : Heap, mm_St D cl ρ cA h0 s (w ++ [.inr (ci, fs)]) H1 locs (cells + 1) → W p l e R s m args below meth c H1 locs (cells + 1) (slots + N) Q (F0 m (pc + 3) ls (.ref (h0 + w.length) :: rest))) : W p l e R s m args below meth c H locs cells slots Q (F0 m pc ls rest) := by
  refine va_new (A := mm_A h0) (H0 := s.heap) (fs := fs.map (mm_rv ρ)) hexec hb hts hin ty hty hown hcl hinst hini hK hH.1.1 mm_ws_D hH.2.1 (fun q hq => Nat.le_trans hH.2.2.2 hq) hc hfs hcells hslots hdg (fun q H1 h1 h2 h3 => ?_)
  exact mm_made (E := .inr (ci, fs)) (g := fun q => F0 m (pc + 3) ls (.ref q :: rest)) hH h1 h2 h3 (kk H1)
theorem mm_newa (hexec : p.tables.exec = Jvm.exec) (hb : c.code = cc) {atype : ArrayType} {ty : FieldType} (hty : newarray.typeOf atype = ty) (ht : ty = .int ∨ ty = .byte ∨ ty = .long) (harr : (Cond.arrayClass ty).before args s = true) (hK : va_K D cl (mm_tys cA) s) (hH : mm_St D cl ρ cA h0 s w H locs cells)
    {n : Int32} {N' : Nat} {a0 : vp_A} (ha : ∀ cA : ClassId, vp_cell cA a0 = arrV cA N' (fun _ => defaultValue ty)) (hn : ¬ n < 0) (hN : n.toNatClampNeg = N') (hbytes : N' * componentBytes ty ≤ 536870912) (hcells : cells + 1 ≤ R.cells) (hslots : slots + N' ≤ R.slots) (hdg : decode cc pc = .ok (.newarray atype, 2))
    (kk : ∀ H1 : Heap, mm_St D cl ρ cA h0 s (w ++ [.inl (ty, a0)]) H1 locs (cells + 1) → W p l e R s m args below meth c H1 locs (cells + 1) (slots + N') Q (F0 m (pc + 2) ls (.ref (h0 + w.length) :: rest))) : W p l e R s m args below meth c H locs cells slots Q (F0 m pc ls (.int n :: rest)) := by
  subst hty
  refine va_newa (A := mm_A h0) (H0 := s.heap) hexec hb harr rfl hK hH.1.1 mm_ws_D hH.2.1 (fun q hq => Nat.le_trans hH.2.2.2 hq) ha hn hN hbytes hcells hslots hdg (fun q cA' H1 hK1 h1 h2 h3 => ?_)
  obtain ⟨t0, ht0⟩ := mm_ty (D := D) (cl := cl) hK ht
  have hcA : cA' = cA (newarray.typeOf atype) := by
    have e1 := (hK1.2 3 (cA', newarray.typeOf atype) rfl).2
    have e2 := (hK.2 t0 _ ht0).2
    rcases ht with h | h | h <;> rw [h] at e1 e2 ⊢ <;> exact Option.some.inj (e1.symm.trans e2)
  subst hcA
  exact mm_made (E := .inl (newarray.typeOf atype, a0)) (g := fun q => F0 m (pc + 2) ls (.ref q :: rest)) hH h1 h2 h3 (kk H1)
end MW
