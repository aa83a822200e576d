theorem zP0 {D : va_G} {cl : List vw_C} {H : Heap} : va_P D cl [] H := fun k q h => by simp at h
theorem zD0 {A : Nat → Prop} : va_D A [] := ⟨fun i j p q h => by simp at h, fun k q h => by simp at h⟩
section ZXW
variable {D : va_G} {cl : List vw_C} {cI : ClassId} {x : Nat} {a b : Nat → Nat} {σ τ σ1 τ1 : zS} {H H1 : Heap} {A A0 : Nat → Prop}
theorem zxb (cI : ClassId) (x : Nat) (a b : Nat → Nat) (σ τ : zS) : zw_X cI x a b σ τ = ((x, .inr (3, [.ref (a 0), .ref (b 0)])) :: zw_H cI a σ) ++ (zw_H cI b τ ++ []) := by simp [zw_X]
theorem zxa_P (h : va_P D cl (zw_X cI x a b σ τ) H) : va_P D cl (zw_H cI a σ) H := fr_P (X := [(x, .inr (3, [.ref (a 0), .ref (b 0)]))]) (Z := zw_H cI b τ) h
theorem zxa_D (h : va_D A (zw_X cI x a b σ τ)) : va_D A (zw_H cI a σ) := fr_D (X := [(x, .inr (3, [.ref (a 0), .ref (b 0)]))]) (Z := zw_H cI b τ) h
theorem zxa_J (hP : va_P D cl (zw_X cI x a b σ τ) H) (hD : va_D A0 (zw_X cI x a b σ τ)) (hkp : ∀ q : Nat, q < H.size → ¬ va_A (zw_H cI a σ) H.size q → H1[q]? = H[q]?) (hF : ∀ q, va_A (zw_H cI a σ) H.size q → A0 q) (hP1 : va_P D cl (zw_H cI a σ1) H1) (hD1 : va_D (va_A (zw_H cI a σ) H.size) (zw_H cI a σ1)) : va_P D cl (zw_X cI x a b σ1 τ) H1 ∧ va_D A0 (zw_X cI x a b σ1 τ) :=
  fr_J (X := [(x, .inr (3, [.ref (a 0), .ref (b 0)]))]) (Z := zw_H cI b τ) hP hD hkp hF hP1 hD1
theorem zxb_P (h : va_P D cl (zw_X cI x a b σ τ) H) : va_P D cl (zw_H cI b τ) H := by rw [zxb] at h; exact fr_P h
theorem zxb_D (h : va_D A (zw_X cI x a b σ τ)) : va_D A (zw_H cI b τ) := by rw [zxb] at h; exact fr_D h
theorem zxb_J (hP : va_P D cl (zw_X cI x a b σ τ) H) (hD : va_D A0 (zw_X cI x a b σ τ)) (hkp : ∀ q : Nat, q < H.size → ¬ va_A (zw_H cI b τ) H.size q → H1[q]? = H[q]?) (hF : ∀ q, va_A (zw_H cI b τ) H.size q → A0 q) (hP1 : va_P D cl (zw_H cI b τ1) H1) (hD1 : va_D (va_A (zw_H cI b τ) H.size) (zw_H cI b τ1)) : va_P D cl (zw_X cI x a b σ τ1) H1 ∧ va_D A0 (zw_X cI x a b σ τ1) := by
  rw [zxb] at hP hD ⊢
  exact fr_J hP hD hkp hF hP1 hD1
end ZXW
/-- of one that looks ahead: the trial house is another behind it -/
abbrev zME (l : Launch) (y : MethodName) (ws : List Cond) (rm : Room) (av : List Value) (D : va_G) (tys : List (ClassId × FieldType)) (w : va_W) (w1 : zS → va_W) (post : Int32 → Prop) : Prop :=
  ∀ sz : Nat, Met l y ws rm (va_Pc av (zPL D tys w sz)) (va_Qi (fun (r : Int32) (_ : zS) => post r) (fun u t => zQW D tys (w1 u) (va_A w sz) t) (va_A w sz)) 0 0 (va_A w sz)
abbrev zMRl (l : Launch) (y : MethodName) (ws : List Cond) (rm : Room) (av : List Value) (D : va_G) (tys : List (ClassId × FieldType)) (w : va_W) (post : Int64 → Prop) : Prop :=
  ∀ sz : Nat, Met l y ws rm (va_Pc av (zPW D tys w sz)) (va_Ql (fun (r : Int64) (_ : Unit) => post r) (fun _ _ => True) (fun _ => False)) 0 0 (fun _ => False)
/-! WHAT THE FACE ANSWERS -/
abbrev f_sail (σ : zS) (v : Int32) : Prop := ¬ v < 0 ∧ v < σ 0 4
def q_row (w : Nat) : Nat := if w = 10 then 17 else w + 6
def q_cnt (σ : zS) (nb ns h w : Nat) : Int32 := if w = 0 then nI h else if w = 1 then nI nb else if w = 2 then nI ns else if w = 3 then nI (h % 24 / 8) else if w = 4 then f_many (σ 12) 1 ns else if w = 5 then f_many (σ 12) 2 ns else if w = 6 then f_sum (σ 15) ns else if w = 7 then f_sum (σ 17) ns else if w = 8 then σ 0 1 else σ 0 2
def q_find (f : Nat → Int32) (v : Int32) : Nat → Nat → Int32
  | _, 0 => -1
  | i, n + 1 => if f i = v then nI i else q_find f v (i + 1) n
def q_adv (f : Nat → Int32) : Nat → Int32 × Int32
  | 0 => (0, -1)
  | w + 1 => if f w ≤ (q_adv f w).2 then q_adv f w else (nI w, f w)
def q_unt (σ : zS) (nb ns h k i : Nat) : Int32 := f_hours σ nb ns h i 12 k
def q_qui (σ : zS) (nb ns h i : Nat) : Int32 := f_sum (f_hours (zs σ 0 1 (nI i)) nb ns h 48 15) ns
def q_wat (σ : zS) (nb ns h k w : Nat) : Int32 := f_hours (zs σ 6 k (nI w)) nb ns h 48 14 k
def q_fold (f : Nat → Int32) : Nat → Int64 → Int64
  | 0, d => d
  | n + 1, d => q_fold f n d * 31 + (f n).toInt64
def q_folds (f : Nat → Nat → Int32) (m : Nat) : Nat → Int64 → Int64
  | 0, d => d
  | n + 1, d => q_fold (f n) m (q_folds f m n d)
def q_dig (σ : zS) (nb ns h : Nat) : Int64 := q_folds (fun k w => σ (q_row w) k) 11 ns (q_folds (fun b w => σ (w + 1) b) 5 nb (q_fold (fun w => q_cnt σ nb ns h w) 10 1783))
theorem zC.bell {σ : zS} {nb ns h : Nat} (hC : zC σ nb ns h) (v : Int32) : zC (zs σ 0 1 v) nb ns h := hC
theorem zC.wat {σ : zS} {nb ns h : Nat} (hC : zC σ nb ns h) (k : Nat) {w : Nat} (hw : w < 3) : zC (zs σ 6 k (nI w)) nb ns h := ⟨hC.1, hC.2.1, hC.2.2.1, hC.2.2.2.1, hC.2.2.2.2.1, hC.2.2.2.2.2.1, fun j hj => by
  by_cases e : j = k
  · exact ⟨w, hw, by rw [e, zs_eq]⟩
  · obtain ⟨w', h1, h2⟩ := hC.2.2.2.2.2.2 j hj
    exact ⟨w', h1, by rw [zs_ne _ _ e]; exact h2⟩⟩

theorem zn_m1 {k : Nat} (hk : k < 2 ^ 31) : ¬ nI k = -1 := fun z => by
  have h := nI_pos hk
  rw [z] at h
  exact h (by decide)
theorem zhas_k {σ : zS} {nb ns h k : Nat} (hC : zC σ nb ns h) (hk : k < nb) : f_has σ (nI k) := by
  have hnb := hC.2.1
  refine ⟨nI_pos (by omega), ?_⟩
  rw [hC.1]
  exact nI_ge hk (by omega)
