/-! the model: its object, and 33 arrays behind it, as a machine with registers; the rows n_ speak of these alone -/
abbrev zMS : Type := (Nat → Int32) × (Nat → Nat → Int32)
def zMl : Nat → Nat
  | 0 => 14
  | 1 => 14
  | 2 => 14
  | 3 => 14
  | 4 => 14
  | 5 => 14
  | 6 => 14
  | 7 => 14
  | 8 => 14
  | 9 => 14
  | 10 => 168
  | 11 => 168
  | 12 => 14
  | 13 => 126
  | 14 => 4200
  | 15 => 4200
  | 16 => 4
  | 17 => 14
  | 18 => 14
  | 19 => 14
  | 20 => 14
  | 21 => 14
  | 22 => 14
  | 23 => 256
  | 24 => 256
  | 25 => 256
  | 26 => 256
  | 27 => 256
  | 28 => 256
  | 29 => 8
  | 30 => 8
  | 31 => 8
  | 32 => 4
  | _ => 0
def zMb : Nat → Bool
  | 17 => true
  | 18 => true
  | 20 => true
  | 21 => true
  | 22 => true
  | 28 => true
  | 31 => true
  | _ => false
def zMA (G : zG) (j : Nat) (f : Nat → Int32) : va_E := match zMb j with
  | true => zZ G (zMl j) f
  | false => zI G (zMl j) f
def zMF (m : Nat) (g : Nat → Int32) : List Value := [.int (g 0), .ref (m + 1 + 0), .ref (m + 1 + 1), .ref (m + 1 + 2), .ref (m + 1 + 3), .ref (m + 1 + 4), .ref (m + 1 + 5), .ref (m + 1 + 6), .ref (m + 1 + 7), .ref (m + 1 + 8), .ref (m + 1 + 9), .ref (m + 1 + 10), .ref (m + 1 + 11), .int (g 1), .ref (m + 1 + 12), .ref (m + 1 + 13), .ref (m + 1 + 14), .ref (m + 1 + 15), .int (g 2), .int (g 3), .int (g 4), .ref (m + 1 + 16), .int (g 5), .ref (m + 1 + 17), .ref (m + 1 + 18), .ref (m + 1 + 19), .int (g 6), .ref (m + 1 + 20), .ref (m + 1 + 21), .ref (m + 1 + 22), .int (g 7), .int (g 8), .int (g 9), .int (g 10), .ref (m + 1 + 23), .ref (m + 1 + 24), .ref (m + 1 + 25), .ref (m + 1 + 26), .ref (m + 1 + 27), .ref (m + 1 + 28), .ref (m + 1 + 29), .ref (m + 1 + 30), .ref (m + 1 + 31), .ref (m + 1 + 32), .int (g 11)]
def zMd (G : zG) (σ : zH) (m : Nat) (S : zMS) : Prop := σ m = some (.inr (12, zMF m S.1)) ∧ ∀ j, j < 33 → σ (m + 1 + j) = some (zMA G j (S.2 j))
def zSF (S : zMS) (j : Nat) (x : Int32) : zMS := (upd S.1 j x, S.2)
def zST (S : zMS) (j i : Nat) (x : Int32) : zMS := (S.1, fun q => if q = j then upd (S.2 j) i x else S.2 q)
theorem zMd.fr {G : zG} {σ σ' : zH} {m : Nat} {S : zMS} (h : zMd G σ m S) (hf : ∀ b, m ≤ b → b < m + 34 → σ' b = σ b) : zMd G σ' m S := ⟨(hf m (by omega) (by omega)).trans h.1, fun j hj => (hf _ (by omega) (by omega)).trans (h.2 j hj)⟩
theorem zMFs0 (m : Nat) (g : Nat → Int32) (x : Int32) : (zMF m g).set 0 (.int x) = zMF m (upd g 0 x) := rfl
theorem zMFs1 (m : Nat) (g : Nat → Int32) (x : Int32) : (zMF m g).set 13 (.int x) = zMF m (upd g 1 x) := rfl
theorem zMFs2 (m : Nat) (g : Nat → Int32) (x : Int32) : (zMF m g).set 18 (.int x) = zMF m (upd g 2 x) := rfl
theorem zMFs3 (m : Nat) (g : Nat → Int32) (x : Int32) : (zMF m g).set 19 (.int x) = zMF m (upd g 3 x) := rfl
theorem zMFs4 (m : Nat) (g : Nat → Int32) (x : Int32) : (zMF m g).set 20 (.int x) = zMF m (upd g 4 x) := rfl
theorem zMFs5 (m : Nat) (g : Nat → Int32) (x : Int32) : (zMF m g).set 22 (.int x) = zMF m (upd g 5 x) := rfl
theorem zMFs6 (m : Nat) (g : Nat → Int32) (x : Int32) : (zMF m g).set 26 (.int x) = zMF m (upd g 6 x) := rfl
theorem zMFs7 (m : Nat) (g : Nat → Int32) (x : Int32) : (zMF m g).set 30 (.int x) = zMF m (upd g 7 x) := rfl
theorem zMFs8 (m : Nat) (g : Nat → Int32) (x : Int32) : (zMF m g).set 31 (.int x) = zMF m (upd g 8 x) := rfl
theorem zMFs9 (m : Nat) (g : Nat → Int32) (x : Int32) : (zMF m g).set 32 (.int x) = zMF m (upd g 9 x) := rfl
theorem zMFs10 (m : Nat) (g : Nat → Int32) (x : Int32) : (zMF m g).set 33 (.int x) = zMF m (upd g 10 x) := rfl
theorem zMFs11 (m : Nat) (g : Nat → Int32) (x : Int32) : (zMF m g).set 44 (.int x) = zMF m (upd g 11 x) := rfl
theorem zMd.put {G : zG} {σ : zH} {m j : Nat} {S : zMS} {x : Int32} (h : zMd G σ m S) : zMd G (zu σ m (.inr (12, zMF m (upd S.1 j x)))) m (zSF S j x) := ⟨zu_eq _ _ _, fun q hq => (zu_ne (by omega)).trans (h.2 q hq)⟩
theorem zMd.st {G : zG} {σ : zH} {m j i : Nat} {S : zMS} {x : Int32} (h : zMd G σ m S) : zMd G (zu σ (m + 1 + j) (zMA G j (upd (S.2 j) i x))) m (zST S j i x) := by
  refine ⟨(zu_ne (by omega)).trans h.1, fun q hq => ?_⟩
  by_cases e : q = j
  · subst e
    rw [zu_eq]
    simp [zST]
  · rw [zu_ne (by omega), h.2 q hq]
    simp [zST, e]
theorem zMA_i {G : zG} {j : Nat} {f : Nat → Int32} (h : zMb j = false) : zMA G j f = zI G (zMl j) f := by unfold zMA; rw [h]
theorem zMA_z {G : zG} {j : Nat} {f : Nat → Int32} (h : zMb j = true) : zMA G j f = zZ G (zMl j) f := by unfold zMA; rw [h]
theorem zST_j (S : zMS) (j i : Nat) (x : Int32) : (zST S j i x).2 j = upd (S.2 j) i x := if_pos rfl
theorem zST_n (S : zMS) {j q : Nat} (i : Nat) (x : Int32) (h : q ≠ j) : (zST S j i x).2 q = S.2 q := if_neg h
theorem zMl_lt (j : Nat) : zMl j < 2 ^ 31 := by unfold zMl; split <;> decide
/-- a walk in the model, and a contract of it -/
def zNW (G : zG) (k : zK) (m : Nat) (Q : Option Value → zMS → Prop) (pc : Nat) (ls : zL) (st : List Value) (S : zMS) : Prop :=
  ∀ (σ0 σ : zH) (nx : Nat), zMd G σ m S → zFr σ0 σ m 34 → zWP G k (zFM G k.2.2.2.1 (fun v σ' nx' => nx' = nx ∧ zFr σ0 σ' m 34 ∧ ∃ S', zMd G σ' m S' ∧ Q v S')) pc ls st σ nx 0 0
def zMN (G : zG) (y : MethodName) (k : zK) (m : Nat) (As : List Value) (S : zMS) (Q : Option Value → zMS → Prop) : Prop :=
  ∀ (σ : zH) (nx : Nat), zMd G σ m S → zM G y k (.ref m :: As) σ nx (fun v σ' nx' => nx' = nx ∧ zFr σ σ' m 34 ∧ ∃ S', zMd G σ' m S' ∧ Q v S')
theorem zMN.of {G : zG} {k : zK} {m : Nat} {ls : zL} {S : zMS} {y : MethodName} {As : List Value} {P : Option Value → zMS → Prop} (hy : plainFor y = true) (hk : k.1 = y.cls ∧ k.2.2.2.2.2.1 = y.name ∧ k.2.2.2.2.2.2 = []) (hn : (lg_sl (.ref m :: As)).length ≤ k.2.2.1) (hls : ∀ q ∈ zTL 0 ls, q ∈ lv_args 0 (.ref m :: As))
    (body : ∀ Q : Option Value → zMS → Prop, (∀ v S', P v S' → Q v S') → zNW G k m Q 0 ls [] S) : zMN G y k m As S P := fun σ nx h => zM.of hy hk hn hls (body P (fun _ _ q => q) σ σ nx h zFr.rf)
section
variable {G : zG} {k : zK} {m pc : Nat} {Q : Option Value → zMS → Prop} {ls : zL} {st rest : List Value} {S : zMS}
theorem n_iconst {n : Int} {v : Int32} (d : decode k.2.1 pc = .ok (.iconst n, 1)) (hv : Int32.ofInt n = v)
    (kk : zNW G k m Q (pc + 1) ls (.int v :: st) S) : zNW G k m Q pc ls (st) S := fun σ0 σ nx h f => z_iconst d hv (kk σ0 σ nx h f)
theorem n_bipush {n : Int} {v : Int32} (d : decode k.2.1 pc = .ok (.bipush n, 2)) (hv : (Int8.ofInt n).toInt32 = v)
    (kk : zNW G k m Q (pc + 2) ls (.int v :: st) S) : zNW G k m Q pc ls (st) S := fun σ0 σ nx h f => z_bipush d hv (kk σ0 σ nx h f)
theorem n_sipush {n : Int} {v : Int32} (d : decode k.2.1 pc = .ok (.sipush n, 3)) (hv : (Int16.ofInt n).toInt32 = v)
    (kk : zNW G k m Q (pc + 3) ls (.int v :: st) S) : zNW G k m Q pc ls (st) S := fun σ0 σ nx h f => z_sipush d hv (kk σ0 σ nx h f)
theorem n_lconst {n : Fin 2} {v : Int64} (d : decode k.2.1 pc = .ok (.lconst n, 1)) (hv : Int64.ofNat (n : Nat) = v)
    (kk : zNW G k m Q (pc + 1) ls (.long v :: st) S) : zNW G k m Q pc ls (st) S := fun σ0 σ nx h f => z_lconst d hv (kk σ0 σ nx h f)
theorem n_iload_n {j : Fin 4} {x : Int32} (d : decode k.2.1 pc = .ok (.iload_n j, 1)) (hi : ls[(j : Nat)]? = some (some (.int x)))
    (kk : zNW G k m Q (pc + 1) ls (.int x :: st) S) : zNW G k m Q pc ls (st) S := fun σ0 σ nx h f => z_iload_n d hi (kk σ0 σ nx h f)
theorem n_iload {i : Nat} {x : Int32} (d : decode k.2.1 pc = .ok (.iload i, 2)) (hi : ls[i]? = some (some (.int x)))
    (kk : zNW G k m Q (pc + 2) ls (.int x :: st) S) : zNW G k m Q pc ls (st) S := fun σ0 σ nx h f => z_iload d hi (kk σ0 σ nx h f)
theorem n_istore_n {j : Fin 4} {x : Int32} (d : decode k.2.1 pc = .ok (.istore_n j, 1)) (hn : (j : Nat) < k.2.2.1)
    (kk : zNW G k m Q (pc + 1) (zset ls j (.int x)) (st) S) : zNW G k m Q pc ls (.int x :: st) S := fun σ0 σ nx h f => z_istore_n d hn (kk σ0 σ nx h f)
theorem n_istore {i : Nat} {x : Int32} (d : decode k.2.1 pc = .ok (.istore i, 2)) (hn : i < k.2.2.1)
    (kk : zNW G k m Q (pc + 2) (zset ls i (.int x)) (st) S) : zNW G k m Q pc ls (.int x :: st) S := fun σ0 σ nx h f => z_istore d hn (kk σ0 σ nx h f)
theorem n_lload_n {j : Fin 4} {x : Int64} (d : decode k.2.1 pc = .ok (.lload_n j, 1)) (hi : ls[(j : Nat)]? = some (some (.long x)))
    (kk : zNW G k m Q (pc + 1) ls (.long x :: st) S) : zNW G k m Q pc ls (st) S := fun σ0 σ nx h f => z_lload_n d hi (kk σ0 σ nx h f)
theorem n_lload {i : Nat} {x : Int64} (d : decode k.2.1 pc = .ok (.lload i, 2)) (hi : ls[i]? = some (some (.long x)))
    (kk : zNW G k m Q (pc + 2) ls (.long x :: st) S) : zNW G k m Q pc ls (st) S := fun σ0 σ nx h f => z_lload d hi (kk σ0 σ nx h f)
theorem n_lstore_n {j : Fin 4} {x : Int64} (d : decode k.2.1 pc = .ok (.lstore_n j, 1)) (hn : (j : Nat) + 1 < k.2.2.1)
    (kk : zNW G k m Q (pc + 1) (zset2 ls j (.long x)) (st) S) : zNW G k m Q pc ls (.long x :: st) S := fun σ0 σ nx h f => z_lstore_n d hn (kk σ0 σ nx h f)
theorem n_lstore {i : Nat} {x : Int64} (d : decode k.2.1 pc = .ok (.lstore i, 2)) (hn : i + 1 < k.2.2.1)
    (kk : zNW G k m Q (pc + 2) (zset2 ls i (.long x)) (st) S) : zNW G k m Q pc ls (.long x :: st) S := fun σ0 σ nx h f => z_lstore d hn (kk σ0 σ nx h f)
theorem n_aload_n {j : Fin 4} {x : Nat} (d : decode k.2.1 pc = .ok (.aload_n j, 1)) (hi : ls[(j : Nat)]? = some (some (.ref x)))
    (kk : zNW G k m Q (pc + 1) ls (.ref x :: st) S) : zNW G k m Q pc ls (st) S := fun σ0 σ nx h f => z_aload_n d hi (kk σ0 σ nx h f)
theorem n_aload {i : Nat} {x : Nat} (d : decode k.2.1 pc = .ok (.aload i, 2)) (hi : ls[i]? = some (some (.ref x)))
    (kk : zNW G k m Q (pc + 2) ls (.ref x :: st) S) : zNW G k m Q pc ls (st) S := fun σ0 σ nx h f => z_aload d hi (kk σ0 σ nx h f)
theorem n_astore_n {j : Fin 4} {x : Nat} (d : decode k.2.1 pc = .ok (.astore_n j, 1)) (hn : (j : Nat) < k.2.2.1)
    (kk : zNW G k m Q (pc + 1) (zset ls j (.ref x)) (st) S) : zNW G k m Q pc ls (.ref x :: st) S := fun σ0 σ nx h f => z_astore_n d hn (kk σ0 σ nx h f)
theorem n_astore {i : Nat} {x : Nat} (d : decode k.2.1 pc = .ok (.astore i, 2)) (hn : i < k.2.2.1)
    (kk : zNW G k m Q (pc + 2) (zset ls i (.ref x)) (st) S) : zNW G k m Q pc ls (.ref x :: st) S := fun σ0 σ nx h f => z_astore d hn (kk σ0 σ nx h f)
theorem n_fload_n {j : Fin 4} {x : UInt32} (d : decode k.2.1 pc = .ok (.fload_n j, 1)) (hi : ls[(j : Nat)]? = some (some (.float x)))
    (kk : zNW G k m Q (pc + 1) ls (.float x :: st) S) : zNW G k m Q pc ls (st) S := fun σ0 σ nx h f => z_fload_n d hi (kk σ0 σ nx h f)
theorem n_fload {i : Nat} {x : UInt32} (d : decode k.2.1 pc = .ok (.fload i, 2)) (hi : ls[i]? = some (some (.float x)))
    (kk : zNW G k m Q (pc + 2) ls (.float x :: st) S) : zNW G k m Q pc ls (st) S := fun σ0 σ nx h f => z_fload d hi (kk σ0 σ nx h f)
theorem n_fstore_n {j : Fin 4} {x : UInt32} (d : decode k.2.1 pc = .ok (.fstore_n j, 1)) (hn : (j : Nat) < k.2.2.1)
    (kk : zNW G k m Q (pc + 1) (zset ls j (.float x)) (st) S) : zNW G k m Q pc ls (.float x :: st) S := fun σ0 σ nx h f => z_fstore_n d hn (kk σ0 σ nx h f)
theorem n_fstore {i : Nat} {x : UInt32} (d : decode k.2.1 pc = .ok (.fstore i, 2)) (hn : i < k.2.2.1)
    (kk : zNW G k m Q (pc + 2) (zset ls i (.float x)) (st) S) : zNW G k m Q pc ls (.float x :: st) S := fun σ0 σ nx h f => z_fstore d hn (kk σ0 σ nx h f)
theorem n_dload_n {j : Fin 4} {x : UInt64} (d : decode k.2.1 pc = .ok (.dload_n j, 1)) (hi : ls[(j : Nat)]? = some (some (.double x)))
    (kk : zNW G k m Q (pc + 1) ls (.double x :: st) S) : zNW G k m Q pc ls (st) S := fun σ0 σ nx h f => z_dload_n d hi (kk σ0 σ nx h f)
theorem n_dload {i : Nat} {x : UInt64} (d : decode k.2.1 pc = .ok (.dload i, 2)) (hi : ls[i]? = some (some (.double x)))
    (kk : zNW G k m Q (pc + 2) ls (.double x :: st) S) : zNW G k m Q pc ls (st) S := fun σ0 σ nx h f => z_dload d hi (kk σ0 σ nx h f)
theorem n_dstore_n {j : Fin 4} {x : UInt64} (d : decode k.2.1 pc = .ok (.dstore_n j, 1)) (hn : (j : Nat) + 1 < k.2.2.1)
    (kk : zNW G k m Q (pc + 1) (zset2 ls j (.double x)) (st) S) : zNW G k m Q pc ls (.double x :: st) S := fun σ0 σ nx h f => z_dstore_n d hn (kk σ0 σ nx h f)
theorem n_dstore {i : Nat} {x : UInt64} (d : decode k.2.1 pc = .ok (.dstore i, 2)) (hn : i + 1 < k.2.2.1)
    (kk : zNW G k m Q (pc + 2) (zset2 ls i (.double x)) (st) S) : zNW G k m Q pc ls (.double x :: st) S := fun σ0 σ nx h f => z_dstore d hn (kk σ0 σ nx h f)
theorem n_iinc {i : Nat} {n : Int} {x v : Int32} (d : decode k.2.1 pc = .ok (.iinc i n, 3)) (hi : ls[i]? = some (some (.int x))) (hv : x + Int32.ofInt n = v) (hn : i < k.2.2.1)
    (kk : zNW G k m Q (pc + 3) (zset ls i (.int v)) (st) S) : zNW G k m Q pc ls (st) S := fun σ0 σ nx h f => z_iinc d hi hv hn (kk σ0 σ nx h f)
theorem n_iadd {x y : Int32} (d : decode k.2.1 pc = .ok (.iadd, 1))
    (kk : zNW G k m Q (pc + 1) ls (.int (x + y) :: st) S) : zNW G k m Q pc ls (.int y :: .int x :: st) S := fun σ0 σ nx h f => z_iadd d (kk σ0 σ nx h f)
theorem n_isub {x y : Int32} (d : decode k.2.1 pc = .ok (.isub, 1))
    (kk : zNW G k m Q (pc + 1) ls (.int (x - y) :: st) S) : zNW G k m Q pc ls (.int y :: .int x :: st) S := fun σ0 σ nx h f => z_isub d (kk σ0 σ nx h f)
theorem n_imul {x y : Int32} (d : decode k.2.1 pc = .ok (.imul, 1))
    (kk : zNW G k m Q (pc + 1) ls (.int (x * y) :: st) S) : zNW G k m Q pc ls (.int y :: .int x :: st) S := fun σ0 σ nx h f => z_imul d (kk σ0 σ nx h f)
theorem n_iand {x y : Int32} (d : decode k.2.1 pc = .ok (.iand, 1))
    (kk : zNW G k m Q (pc + 1) ls (.int (x &&& y) :: st) S) : zNW G k m Q pc ls (.int y :: .int x :: st) S := fun σ0 σ nx h f => z_iand d (kk σ0 σ nx h f)
theorem n_ior {x y : Int32} (d : decode k.2.1 pc = .ok (.ior, 1))
    (kk : zNW G k m Q (pc + 1) ls (.int (x ||| y) :: st) S) : zNW G k m Q pc ls (.int y :: .int x :: st) S := fun σ0 σ nx h f => z_ior d (kk σ0 σ nx h f)
theorem n_ixor {x y : Int32} (d : decode k.2.1 pc = .ok (.ixor, 1))
    (kk : zNW G k m Q (pc + 1) ls (.int (x ^^^ y) :: st) S) : zNW G k m Q pc ls (.int y :: .int x :: st) S := fun σ0 σ nx h f => z_ixor d (kk σ0 σ nx h f)
theorem n_ineg {x : Int32} (d : decode k.2.1 pc = .ok (.ineg, 1))
    (kk : zNW G k m Q (pc + 1) ls (.int (-x) :: st) S) : zNW G k m Q pc ls (.int x :: st) S := fun σ0 σ nx h f => z_ineg d (kk σ0 σ nx h f)
theorem n_idiv {x y : Int32} (d : decode k.2.1 pc = .ok (.idiv, 1)) (hne : ¬ y = 0)
    (kk : zNW G k m Q (pc + 1) ls (.int (x / y) :: st) S) : zNW G k m Q pc ls (.int y :: .int x :: st) S := fun σ0 σ nx h f => z_idiv d hne (kk σ0 σ nx h f)
theorem n_irem {x y : Int32} (d : decode k.2.1 pc = .ok (.irem, 1)) (hne : ¬ y = 0)
    (kk : zNW G k m Q (pc + 1) ls (.int (x - x / y * y) :: st) S) : zNW G k m Q pc ls (.int y :: .int x :: st) S := fun σ0 σ nx h f => z_irem d hne (kk σ0 σ nx h f)
theorem n_ishl {x y : Int32} (d : decode k.2.1 pc = .ok (.ishl, 1))
    (kk : zNW G k m Q (pc + 1) ls (.int (x <<< (y &&& 31)) :: st) S) : zNW G k m Q pc ls (.int y :: .int x :: st) S := fun σ0 σ nx h f => z_ishl d (kk σ0 σ nx h f)
theorem n_ishr {x y : Int32} (d : decode k.2.1 pc = .ok (.ishr, 1))
    (kk : zNW G k m Q (pc + 1) ls (.int (x >>> (y &&& 31)) :: st) S) : zNW G k m Q pc ls (.int y :: .int x :: st) S := fun σ0 σ nx h f => z_ishr d (kk σ0 σ nx h f)
theorem n_iushr {x y v : Int32} (d : decode k.2.1 pc = .ok (.iushr, 1)) (hv : (x.toUInt32 >>> (y.toUInt32 &&& Int32.toUInt32 31)).toInt32 = v)
    (kk : zNW G k m Q (pc + 1) ls (.int v :: st) S) : zNW G k m Q pc ls (.int y :: .int x :: st) S := fun σ0 σ nx h f => z_iushr d hv (kk σ0 σ nx h f)
theorem n_i2l {x : Int32} (d : decode k.2.1 pc = .ok (.i2l, 1))
    (kk : zNW G k m Q (pc + 1) ls (.long x.toInt64 :: st) S) : zNW G k m Q pc ls (.int x :: st) S := fun σ0 σ nx h f => z_i2l d (kk σ0 σ nx h f)
theorem n_l2i {x : Int64} (d : decode k.2.1 pc = .ok (.l2i, 1))
    (kk : zNW G k m Q (pc + 1) ls (.int x.toInt32 :: st) S) : zNW G k m Q pc ls (.long x :: st) S := fun σ0 σ nx h f => z_l2i d (kk σ0 σ nx h f)
theorem n_dup {a : Value} (d : decode k.2.1 pc = .ok (.dup, 1)) (ha : a.category = 1)
    (kk : zNW G k m Q (pc + 1) ls (a :: a :: st) S) : zNW G k m Q pc ls (a :: st) S := fun σ0 σ nx h f => z_dup d ha (kk σ0 σ nx h f)
theorem n_pop {a : Value} (d : decode k.2.1 pc = .ok (.pop, 1)) (ha : a.category = 1)
    (kk : zNW G k m Q (pc + 1) ls (st) S) : zNW G k m Q pc ls (a :: st) S := fun σ0 σ nx h f => z_pop d ha (kk σ0 σ nx h f)
theorem n_dup_x1 {a b : Value} (d : decode k.2.1 pc = .ok (.dup_x1, 1)) (ha : a.category = 1) (hb : b.category = 1)
    (kk : zNW G k m Q (pc + 1) ls (a :: b :: a :: st) S) : zNW G k m Q pc ls (a :: b :: st) S := fun σ0 σ nx h f => z_dup_x1 d ha hb (kk σ0 σ nx h f)
theorem n_dup2 {a b : Value} (d : decode k.2.1 pc = .ok (.dup2, 1)) (ha : a.category = 1) (hb : b.category = 1)
    (kk : zNW G k m Q (pc + 1) ls (a :: b :: a :: b :: st) S) : zNW G k m Q pc ls (a :: b :: st) S := fun σ0 σ nx h f => z_dup2 d ha hb (kk σ0 σ nx h f)
theorem n_dup2l {a : Value} (d : decode k.2.1 pc = .ok (.dup2, 1)) (ha : a.category = 2)
    (kk : zNW G k m Q (pc + 1) ls (a :: a :: st) S) : zNW G k m Q pc ls (a :: st) S := fun σ0 σ nx h f => z_dup2l d ha (kk σ0 σ nx h f)
theorem n_goto {off : Int} {tgt : Nat} (d : decode k.2.1 pc = .ok (.goto off, 3)) (ht : (pc : Int) + off = (tgt : Int))
    (kk : zNW G k m Q (tgt) ls (st) S) : zNW G k m Q pc ls (st) S := fun σ0 σ nx h f => z_goto d ht (kk σ0 σ nx h f)
theorem n_if_eq {x : Int32} {off : Int} {tgt : Nat} (d : decode k.2.1 pc = .ok (.ifCond .eq off, 3)) (ht : (pc : Int) + off = (tgt : Int))
    (kt : x = 0 → zNW G k m Q (tgt) ls (st) S) (kf : ¬ x = 0 → zNW G k m Q (pc + 3) ls (st) S) : zNW G k m Q pc ls (.int x :: st) S := fun σ0 σ nx h f => z_if_eq d ht (fun q => kt q σ0 σ nx h f) (fun q => kf q σ0 σ nx h f)
theorem n_if_ne {x : Int32} {off : Int} {tgt : Nat} (d : decode k.2.1 pc = .ok (.ifCond .ne off, 3)) (ht : (pc : Int) + off = (tgt : Int))
    (kt : ¬ x = 0 → zNW G k m Q (tgt) ls (st) S) (kf : x = 0 → zNW G k m Q (pc + 3) ls (st) S) : zNW G k m Q pc ls (.int x :: st) S := fun σ0 σ nx h f => z_if_ne d ht (fun q => kt q σ0 σ nx h f) (fun q => kf q σ0 σ nx h f)
theorem n_if_lt {x : Int32} {off : Int} {tgt : Nat} (d : decode k.2.1 pc = .ok (.ifCond .lt off, 3)) (ht : (pc : Int) + off = (tgt : Int))
    (kt : x < 0 → zNW G k m Q (tgt) ls (st) S) (kf : ¬ x < 0 → zNW G k m Q (pc + 3) ls (st) S) : zNW G k m Q pc ls (.int x :: st) S := fun σ0 σ nx h f => z_if_lt d ht (fun q => kt q σ0 σ nx h f) (fun q => kf q σ0 σ nx h f)
theorem n_if_ge {x : Int32} {off : Int} {tgt : Nat} (d : decode k.2.1 pc = .ok (.ifCond .ge off, 3)) (ht : (pc : Int) + off = (tgt : Int))
    (kt : 0 ≤ x → zNW G k m Q (tgt) ls (st) S) (kf : ¬ 0 ≤ x → zNW G k m Q (pc + 3) ls (st) S) : zNW G k m Q pc ls (.int x :: st) S := fun σ0 σ nx h f => z_if_ge d ht (fun q => kt q σ0 σ nx h f) (fun q => kf q σ0 σ nx h f)
theorem n_if_gt {x : Int32} {off : Int} {tgt : Nat} (d : decode k.2.1 pc = .ok (.ifCond .gt off, 3)) (ht : (pc : Int) + off = (tgt : Int))
    (kt : 0 < x → zNW G k m Q (tgt) ls (st) S) (kf : ¬ 0 < x → zNW G k m Q (pc + 3) ls (st) S) : zNW G k m Q pc ls (.int x :: st) S := fun σ0 σ nx h f => z_if_gt d ht (fun q => kt q σ0 σ nx h f) (fun q => kf q σ0 σ nx h f)
theorem n_if_le {x : Int32} {off : Int} {tgt : Nat} (d : decode k.2.1 pc = .ok (.ifCond .le off, 3)) (ht : (pc : Int) + off = (tgt : Int))
    (kt : x ≤ 0 → zNW G k m Q (tgt) ls (st) S) (kf : ¬ x ≤ 0 → zNW G k m Q (pc + 3) ls (st) S) : zNW G k m Q pc ls (.int x :: st) S := fun σ0 σ nx h f => z_if_le d ht (fun q => kt q σ0 σ nx h f) (fun q => kf q σ0 σ nx h f)
theorem n_icmp_eq {x y : Int32} {off : Int} {tgt : Nat} (d : decode k.2.1 pc = .ok (.if_icmp .eq off, 3)) (ht : (pc : Int) + off = (tgt : Int))
    (kt : x = y → zNW G k m Q (tgt) ls (st) S) (kf : ¬ x = y → zNW G k m Q (pc + 3) ls (st) S) : zNW G k m Q pc ls (.int y :: .int x :: st) S := fun σ0 σ nx h f => z_icmp_eq d ht (fun q => kt q σ0 σ nx h f) (fun q => kf q σ0 σ nx h f)
theorem n_icmp_ne {x y : Int32} {off : Int} {tgt : Nat} (d : decode k.2.1 pc = .ok (.if_icmp .ne off, 3)) (ht : (pc : Int) + off = (tgt : Int))
    (kt : ¬ x = y → zNW G k m Q (tgt) ls (st) S) (kf : x = y → zNW G k m Q (pc + 3) ls (st) S) : zNW G k m Q pc ls (.int y :: .int x :: st) S := fun σ0 σ nx h f => z_icmp_ne d ht (fun q => kt q σ0 σ nx h f) (fun q => kf q σ0 σ nx h f)
theorem n_icmp_lt {x y : Int32} {off : Int} {tgt : Nat} (d : decode k.2.1 pc = .ok (.if_icmp .lt off, 3)) (ht : (pc : Int) + off = (tgt : Int))
    (kt : x < y → zNW G k m Q (tgt) ls (st) S) (kf : ¬ x < y → zNW G k m Q (pc + 3) ls (st) S) : zNW G k m Q pc ls (.int y :: .int x :: st) S := fun σ0 σ nx h f => z_icmp_lt d ht (fun q => kt q σ0 σ nx h f) (fun q => kf q σ0 σ nx h f)
theorem n_icmp_ge {x y : Int32} {off : Int} {tgt : Nat} (d : decode k.2.1 pc = .ok (.if_icmp .ge off, 3)) (ht : (pc : Int) + off = (tgt : Int))
    (kt : y ≤ x → zNW G k m Q (tgt) ls (st) S) (kf : ¬ y ≤ x → zNW G k m Q (pc + 3) ls (st) S) : zNW G k m Q pc ls (.int y :: .int x :: st) S := fun σ0 σ nx h f => z_icmp_ge d ht (fun q => kt q σ0 σ nx h f) (fun q => kf q σ0 σ nx h f)
theorem n_icmp_gt {x y : Int32} {off : Int} {tgt : Nat} (d : decode k.2.1 pc = .ok (.if_icmp .gt off, 3)) (ht : (pc : Int) + off = (tgt : Int))
    (kt : y < x → zNW G k m Q (tgt) ls (st) S) (kf : ¬ y < x → zNW G k m Q (pc + 3) ls (st) S) : zNW G k m Q pc ls (.int y :: .int x :: st) S := fun σ0 σ nx h f => z_icmp_gt d ht (fun q => kt q σ0 σ nx h f) (fun q => kf q σ0 σ nx h f)
theorem n_icmp_le {x y : Int32} {off : Int} {tgt : Nat} (d : decode k.2.1 pc = .ok (.if_icmp .le off, 3)) (ht : (pc : Int) + off = (tgt : Int))
    (kt : x ≤ y → zNW G k m Q (tgt) ls (st) S) (kf : ¬ x ≤ y → zNW G k m Q (pc + 3) ls (st) S) : zNW G k m Q pc ls (.int y :: .int x :: st) S := fun σ0 σ nx h f => z_icmp_le d ht (fun q => kt q σ0 σ nx h f) (fun q => kf q σ0 σ nx h f)
theorem n_acmp_eq {rx ry : Option Nat} {off : Int} {tgt : Nat} (d : decode k.2.1 pc = .ok (.if_acmp .eq off, 3)) (ht : (pc : Int) + off = (tgt : Int))
    (kt : rx = ry → zNW G k m Q (tgt) ls (st) S) (kf : ¬ rx = ry → zNW G k m Q (pc + 3) ls (st) S) : zNW G k m Q pc ls (va_rf ry :: va_rf rx :: st) S := fun σ0 σ nx h f => z_acmp_eq d ht (fun q => kt q σ0 σ nx h f) (fun q => kf q σ0 σ nx h f)
theorem n_acmp_ne {rx ry : Option Nat} {off : Int} {tgt : Nat} (d : decode k.2.1 pc = .ok (.if_acmp .ne off, 3)) (ht : (pc : Int) + off = (tgt : Int))
    (kt : ¬ rx = ry → zNW G k m Q (tgt) ls (st) S) (kf : rx = ry → zNW G k m Q (pc + 3) ls (st) S) : zNW G k m Q pc ls (va_rf ry :: va_rf rx :: st) S := fun σ0 σ nx h f => z_acmp_ne d ht (fun q => kt q σ0 σ nx h f) (fun q => kf q σ0 σ nx h f)
theorem n_lcmp {x y : Int64} {v : Int32} (d : decode k.2.1 pc = .ok (.lcmp, 1)) (hv : lg_cmp x y = v)
    (kk : zNW G k m Q (pc + 1) ls (.int v :: st) S) : zNW G k m Q pc ls (.long y :: .long x :: st) S := fun σ0 σ nx h f => z_lcmp d hv (kk σ0 σ nx h f)
theorem n_fdiv {x y : UInt32} (d : decode k.2.1 pc = .ok (.fdiv, 1)) (hne : vf_n32 (FP.fdiv x y))
    (kk : zNW G k m Q (pc + 1) ls (.float (FP.fdiv x y) :: st) S) : zNW G k m Q pc ls (.float y :: .float x :: st) S := fun σ0 σ nx h f => z_fdiv d hne (kk σ0 σ nx h f)
theorem n_i2f {x : Int32} (d : decode k.2.1 pc = .ok (.i2f, 1))
    (kk : zNW G k m Q (pc + 1) ls (.float (FP.i2f x) :: st) S) : zNW G k m Q pc ls (.int x :: st) S := fun σ0 σ nx h f => z_i2f d (kk σ0 σ nx h f)
theorem n_f2d {x : UInt32} (d : decode k.2.1 pc = .ok (.f2d, 1)) (hne : vf_n64 (FP.f2d x))
    (kk : zNW G k m Q (pc + 1) ls (.double (FP.f2d x) :: st) S) : zNW G k m Q pc ls (.float x :: st) S := fun σ0 σ nx h f => z_f2d d hne (kk σ0 σ nx h f)
theorem n_dcmp {x y : UInt64} {op : CmpOp} (d : decode k.2.1 pc = .ok (.dcmp op, 1))
    (kk : zNW G k m Q (pc + 1) ls (.int (Op.cmpValue (FP.dcmp x y) op) :: st) S) : zNW G k m Q pc ls (.double y :: .double x :: st) S := fun σ0 σ nx h f => z_dcmp d (kk σ0 σ nx h f)
theorem n_ldc {i : Nat} {v : Int32} (d : decode k.2.1 pc = .ok (.ldc i, 2)) (hw : Cond.constant k.1 i v ∈ zW)
    (kk : zNW G k m Q (pc + 2) ls (.int v :: st) S) : zNW G k m Q pc ls (st) S := fun σ0 σ nx h f => z_ldc d hw (kk σ0 σ nx h f)
theorem n_ldc_w {i : Nat} {v : Int32} (d : decode k.2.1 pc = .ok (.ldc_w i, 3)) (hw : Cond.constant k.1 i v ∈ zW)
    (kk : zNW G k m Q (pc + 3) ls (.int v :: st) S) : zNW G k m Q pc ls (st) S := fun σ0 σ nx h f => z_ldc_w d hw (kk σ0 σ nx h f)
theorem n_ldc2 {i : Nat} {v : Int64} (d : decode k.2.1 pc = .ok (.ldc2_w i, 3)) (hw : Cond.constantLong k.1 i v ∈ zW)
    (kk : zNW G k m Q (pc + 3) ls (.long v :: st) S) : zNW G k m Q pc ls (st) S := fun σ0 σ nx h f => z_ldc2 d hw (kk σ0 σ nx h f)
theorem n_inc1 {i : Nat} {x : Int32} (d : decode k.2.1 pc = .ok (.iinc i 1, 3)) (hi : ls[i]? = some (some (.int x))) (hn : i < k.2.2.1)
    (kk : zNW G k m Q (pc + 3) (zset ls i (.int (x + 1))) st S) : zNW G k m Q pc ls st S := n_iinc d hi rfl hn kk
theorem n_dec1 {i : Nat} {x : Int32} (d : decode k.2.1 pc = .ok (.iinc i (-1), 3)) (hi : ls[i]? = some (some (.int x))) (hn : i < k.2.2.1)
    (kk : zNW G k m Q (pc + 3) (zset ls i (.int (x + (-1)))) st S) : zNW G k m Q pc ls st S := n_iinc d hi rfl hn kk
theorem n_get {idx fi : Nat} {v : Value} (d : decode k.2.1 pc = .ok (.getfield idx, 3)) (hf : zFl k.1 idx 12 fi) (hv : (zMF m S.1)[fi]? = some v)
    (kk : zNW G k m Q (pc + 3) ls (v :: st) S) : zNW G k m Q pc ls (.ref m :: st) S := fun σ0 σ nx h f => z_getf d hf h.1 hv (kk σ0 σ nx h f)
theorem n_getE {idx fi : Nat} {x y : Int32} (d : decode k.2.1 pc = .ok (.getfield idx, 3)) (hf : zFl k.1 idx 12 fi) (hv : (zMF m S.1)[fi]? = some (.int y)) (he : y = x)
    (kk : zNW G k m Q (pc + 3) ls (.int x :: st) S) : zNW G k m Q pc ls (.ref m :: st) S := fun σ0 σ nx h f => z_getf d hf h.1 (by rw [hv, he]) (kk σ0 σ nx h f)
theorem n_put {idx fi j : Nat} {x : Int32} {ty : FieldType} (d : decode k.2.1 pc = .ok (.putfield idx, 3)) (hf : zFp k.1 idx 12 fi ty) (hset : (zMF m S.1).set fi (.int x) = zMF m (upd S.1 j x)) (hn : narrow ty (.int x) = .int x) (hfit : fits ty (.int x) = true) (hl : fi < 45)
    (kk : zNW G k m Q (pc + 3) ls st (zSF S j x)) : zNW G k m Q pc ls (.int x :: .ref m :: st) S := fun σ0 σ nx h f => by
  refine z_putf d hf h.1 hn hfit hl ?_
  rw [hset]
  exact kk σ0 _ nx h.put fun b hb => (zu_ne (by omega)).trans (f b hb)
theorem n_iald {j i : Nat} {ix v : Int32} (d : decode k.2.1 pc = .ok (.iaload, 1)) (hj : j < 33) (hb : zMb j = false) (hi : ix = nI i) (hl : i < zMl j) (hv : S.2 j i = v)
    (kk : zNW G k m Q (pc + 1) ls (.int v :: st) S) : zNW G k m Q pc ls (.int ix :: .ref (m + 1 + j) :: st) S := fun σ0 σ nx h f => by
  subst hi
  have hm := zMl_lt j
  refine z_iald d ((h.2 j hj).trans (by rw [zMA_i hb])) (vp_in_nI hl hm) ?_
  rw [nI_clamp (by omega), hv]
  exact kk σ0 σ nx h f
theorem n_zald {j i : Nat} {ix v : Int32} (d : decode k.2.1 pc = .ok (.baload, 1)) (hj : j < 33) (hb : zMb j = true) (hi : ix = nI i) (hl : i < zMl j) (hv : S.2 j i = v)
    (kk : zNW G k m Q (pc + 1) ls (.int v :: st) S) : zNW G k m Q pc ls (.int ix :: .ref (m + 1 + j) :: st) S := fun σ0 σ nx h f => by
  subst hi
  have hm := zMl_lt j
  refine z_zald d ((h.2 j hj).trans (by rw [zMA_z hb])) (vp_in_nI hl hm) ?_
  rw [nI_clamp (by omega), hv]
  exact kk σ0 σ nx h f
theorem n_iast {j i : Nat} {ix x : Int32} (d : decode k.2.1 pc = .ok (.iastore, 1)) (hj : j < 33) (hb : zMb j = false) (hi : ix = nI i) (hl : i < zMl j)
    (kk : zNW G k m Q (pc + 1) ls st (zST S j i x)) : zNW G k m Q pc ls (.int x :: .int ix :: .ref (m + 1 + j) :: st) S := fun σ0 σ nx h f => by
  subst hi
  have hm := zMl_lt j
  refine z_iast d ((h.2 j hj).trans (by rw [zMA_i hb])) (vp_in_nI hl hm) ?_
  rw [nI_clamp (by omega), ← zMA_i hb]
  exact kk σ0 _ nx h.st fun b hb => (zu_ne (by omega)).trans (f b hb)
theorem n_zast {j i : Nat} {ix x : Int32} (d : decode k.2.1 pc = .ok (.bastore, 1)) (hj : j < 33) (hb : zMb j = true) (hi : ix = nI i) (hl : i < zMl j) (hn : narrow .boolean (.int x) = .int x)
    (kk : zNW G k m Q (pc + 1) ls st (zST S j i x)) : zNW G k m Q pc ls (.int x :: .int ix :: .ref (m + 1 + j) :: st) S := fun σ0 σ nx h f => by
  subst hi
  have hm := zMl_lt j
  refine z_zast d ((h.2 j hj).trans (by rw [zMA_z hb])) (vp_in_nI hl hm) hn ?_
  rw [nI_clamp (by omega), ← zMA_z hb]
  exact kk σ0 _ nx h.st fun b hb => (zu_ne (by omega)).trans (f b hb)
theorem n_call {idx n : Nat} {y : MethodName} {k2 : zK} {As : List Value} {Q' : Option Value → zMS → Prop} (d : decode k.2.1 pc = .ok (.invokevirtual idx, 3)) (hlk : zLv k.1 idx y k2 n) (hM : zMN G y k2 m As S Q') (hst : st = As.reverse ++ .ref m :: rest) (hy : some RX12 = some y.cls) (hn : As.length = n) (hR : zRoom k k2)
    (hc : k2.2.2.2.1.cells = 0) (hs : k2.2.2.2.1.slots = 0) (hW : (rest.map fun v => v.category).sum ≤ 8)
    (kk : ∀ (v : Option Value) (S' : zMS), Q' v S' → zNW G k m Q (pc + 3) ls (v.toList ++ rest) S') : zNW G k m Q pc ls st S := fun σ0 σ nx h f => by
  refine z_callV d hlk (hM σ nx h) hst h.1 hy hn hR (by rw [hc]; exact Nat.zero_le _) (by rw [hs]; exact Nat.zero_le _) hW (fun v σ1 nx1 _ q => ?_)
  obtain ⟨rfl, f1, S1, h1, q1⟩ := q
  rw [hc, hs]
  exact kk v S1 q1 σ0 σ1 nx1 h1 fun b hb => (f1 b hb).trans (f b hb)
/-- a call of what touches nothing -/
theorem n_callS {idx n : Nat} {y : MethodName} {k2 : zK} {As : List Value} {P : Option Value → Prop} (d : decode k.2.1 pc = .ok (.invokestatic idx, 3)) (hlk : zLs k.1 idx y k2 n) (hM : ∀ (σ : zH) (nx : Nat), zM G y k2 As σ nx (fun v σ' nx' => P v ∧ σ' = σ ∧ nx' = nx)) (hst : st = As.reverse ++ rest) (hn : As.length = n) (hR : zRoom k k2)
    (hc : k2.2.2.2.1.cells = 0) (hs : k2.2.2.2.1.slots = 0) (hW : (rest.map fun v => v.category).sum ≤ 8)
    (kk : ∀ (v : Option Value), P v → zNW G k m Q (pc + 3) ls (v.toList ++ rest) S) : zNW G k m Q pc ls st S := fun σ0 σ nx h f => by
  refine z_callS d hlk (hM σ nx) hst hn hR (by rw [hc]; exact Nat.zero_le _) (by rw [hs]; exact Nat.zero_le _) hW (fun v σ1 nx1 _ q => ?_)
  obtain ⟨q1, rfl, rfl⟩ := q
  rw [hc, hs]
  exact kk v q1 σ0 σ1 nx1 h f
theorem n_iret {v : Int32} (d : decode k.2.1 pc = .ok (.ireturn, 1)) (hr : k.2.2.2.2.1 = some .int) (hq : Q (some (.int v)) S) : zNW G k m Q pc ls [.int v] S := fun _ _ _ h f => z_iret d hr (Nat.zero_le _) (Nat.zero_le _) ⟨rfl, f, S, h, hq⟩
theorem n_zret {v : Int32} (d : decode k.2.1 pc = .ok (.ireturn, 1)) (hr : k.2.2.2.2.1 = some .boolean) (hn : narrow .boolean (.int v) = .int v) (hq : Q (some (.int v)) S) : zNW G k m Q pc ls [.int v] S := fun _ _ _ h f => z_zret d hr hn (Nat.zero_le _) (Nat.zero_le _) ⟨rfl, f, S, h, hq⟩
theorem n_vret (d : decode k.2.1 pc = .ok (.return_, 1)) (hr : k.2.2.2.2.1 = none) (hq : Q none S) : zNW G k m Q pc ls [] S := fun _ _ _ h f => z_vret d hr (Nat.zero_le _) (Nat.zero_le _) ⟨rfl, f, S, h, hq⟩
theorem n_lret {v : Int64} (d : decode k.2.1 pc = .ok (.lreturn, 1)) (hr : k.2.2.2.2.1 = some .long) (hq : Q (some (.long v)) S) : zNW G k m Q pc ls [.long v] S := fun _ _ _ h f => z_lret d hr (Nat.zero_le _) (Nat.zero_le _) ⟨rfl, f, S, h, hq⟩
theorem n_fret {v : UInt32} (d : decode k.2.1 pc = .ok (.freturn, 1)) (hr : k.2.2.2.2.1 = some .float) (hq : Q (some (.float v)) S) : zNW G k m Q pc ls [.float v] S := fun _ _ _ h f => z_fret d hr (Nat.zero_le _) (Nat.zero_le _) ⟨rfl, f, S, h, hq⟩
end
