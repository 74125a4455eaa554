/-! the disk, saving, the checkpoint's units -/
theorem wu {uA uW mA mL mW : Int32} (h : Dk uA uW mA mL mW) (mD : Int32) : (∃ a w l, D_writeUnit uA uW = some (1, a, w) ∧ M_writeUnit mD mA mL mW = some (1, mD, l, w) ∧ Dk a w mA l w ∧ (uA = -1 → a = -1)) ∨ (uA ≠ -1 ∧ D_writeUnit uA uW = some (0, uA, uW) ∧ M_writeUnit mD mA mL mW = some (0, 1, mL, mW)) := by
  obtain ⟨rfl, h | ⟨k, hk, rfl, rfl, rfl⟩⟩ := h
  · obtain ⟨rfl, rfl⟩ := h
    refine Or.inl ⟨-1, uW + 1, mL, ?_, ?_, ⟨rfl, Or.inl ⟨rfl, rfl⟩⟩, fun _ => rfl⟩
    · unfold D_writeUnit; rw [if_neg (by decide), if_pos (by decide)]
    · unfold M_writeUnit; rw [if_pos rfl, if_pos rfl]
  · rcases Nat.eq_zero_or_pos k with e | e
    · subst e
      refine Or.inr ⟨by decide, ?_, ?_⟩
      · unfold D_writeUnit; rw [if_pos (by decide)]
      · unfold M_writeUnit; rw [if_neg (by decide), if_pos (by decide)]
    · have h0 : ¬ nI k = (0 : Int32) := q_ne (b := 0) (by omega) (by omega) (by omega)
      have hs : nI k - (1 : Int32) = nI (k - 1) := pk_sub (b := 1) (by omega)
      refine Or.inl ⟨nI (k - 1), uW + 1, nI (k - 1), ?_, ?_, ⟨rfl, Or.inr ⟨k - 1, by omega, rfl, rfl, rfl⟩⟩, fun q => absurd q (q_nem1 (by omega))⟩
      · unfold D_writeUnit; rw [if_neg h0, if_neg (show ¬ nI k ≤ (0 : Int32) from q_nle (b := 0) (by omega) (by omega) (by omega)), hs]
      · unfold M_writeUnit; rw [if_neg (by decide), if_neg h0, if_neg (by decide), hs]
theorem save_L {op fl : Nat} (ho : op < 8) (hfl : fl ≤ 16) {mFil : Nat → Int32} (hF : mFil op = nI fl) {mA mD : Int32} : ∀ (d sv c fU fM : Nat) (uA uW mL mW : Int32) (S : Nat → Int32), sv + d = fl → d < fU → d < fM → S op = nI sv → Dk uA uW mA mL mW →
    ∃ (v : Nat) (a w l : Int32) (S' : Nat → Int32), sv ≤ v ∧ v ≤ fl ∧ S' op = nI v ∧ (∀ s, s ≠ op → S' s = S s) ∧ Dk a w mA l w ∧ (uA = -1 → a = -1 ∧ v = fl) ∧
      ((v = fl ∧ (∀ K, U_saveUnits_L5 (nI fl) K fU (nI sv) uA uW (nI sv) = K (nI fl) a w (nI fl)) ∧ (∀ K, M_save_L2 (nI op) mA mFil K fM mD mL mW S (nI c) = K mD l w S' (nI (c + d)))) ∨
       (uA ≠ -1 ∧ (∀ K, U_saveUnits_L5 (nI fl) K fU (nI sv) uA uW (nI sv) = some (0, nI v, a, w)) ∧ (∀ K, M_save_L2 (nI op) mA mFil K fM mD mL mW S (nI c) = some (-4, 1, l, w, S')))) := by
  intro d
  induction d with
  | zero =>
    intro sv c fU fM uA uW mL mW S hd h1 h2 hS hD
    obtain ⟨f, rfl⟩ : ∃ f, fU = f + 1 := ⟨fU - 1, by omega⟩
    obtain ⟨q, rfl⟩ : ∃ f, fM = f + 1 := ⟨fM - 1, by omega⟩
    obtain rfl : sv = fl := by omega
    have hw := hD.1
    subst hw
    refine ⟨sv, uA, uW, mL, S, Nat.le_refl _, Nat.le_refl _, hS, fun _ _ => rfl, hD, fun e => ⟨e, rfl⟩, Or.inl ⟨rfl, fun K => ?_, fun K => ?_⟩⟩
    · rw [U_saveUnits_L5, if_pos (q_le (by omega) (by omega) (Nat.le_refl _))]
    · rw [M_save_L2, q_ck ho (by omega), q_ck ho (by omega), nI_clamp (by omega), hF, hS, if_pos (q_le (by omega) (by omega) (Nat.le_refl _))]
      rfl
  | succ d ih =>
    intro sv c fU fM uA uW mL mW S hd h1 h2 hS hD
    obtain ⟨f, rfl⟩ : ∃ f, fU = f + 1 := ⟨fU - 1, by omega⟩
    obtain ⟨q, rfl⟩ : ∃ f, fM = f + 1 := ⟨fM - 1, by omega⟩
    have hn : ¬ nI fl ≤ nI sv := q_nle (by omega) (by omega) (by omega)
    rcases wu hD mD with ⟨a, w, l, e1, e2, e3, e4⟩ | ⟨e0, e1, e2⟩
    · obtain ⟨v, a', w', l', S', r1, r2, r3, r4, r5, r6, r7⟩ := ih (sv + 1) (c + 1) f q a w l w (upd S op (nI sv + (1 : Int32))) (by omega) (by omega) (by omega) (by rw [upd_s, nI_1]) e3
      have hU : ∀ K, U_saveUnits_L5 (nI fl) K (f + 1) (nI sv) uA uW (nI sv) = U_saveUnits_L5 (nI fl) K f (nI (sv + 1)) a w (nI (sv + 1)) := fun K => by
        rw [U_saveUnits_L5, if_neg hn, e1, Option.bind_some, if_neg (show ¬ (1 : Int32) = 0 by decide), nI_1]
      have hM : ∀ K, M_save_L2 (nI op) mA mFil K (q + 1) mD mL mW S (nI c) = M_save_L2 (nI op) mA mFil K q mD l w (upd S op (nI sv + (1 : Int32))) (nI (c + 1)) := fun K => by
        rw [M_save_L2, q_ck ho (by omega), q_ck ho (by omega), nI_clamp (by omega), hF, hS, if_neg hn, e2, Option.bind_some, if_neg (show ¬ (1 : Int32) = 0 by decide), q_ck ho (by omega), q_ck ho (by omega), nI_1, nI_1]
      refine ⟨v, a', w', l', S', by omega, r2, r3, fun s hs => by rw [r4 s hs, upd_n _ _ hs], r5, fun e => r6 (e4 e), ?_⟩
      rcases r7 with ⟨t1, t2, t3⟩ | ⟨t1, t2, t3⟩
      · exact Or.inl ⟨t1, fun K => by rw [hU K]; exact t2 K, fun K => by rw [hM K, t3 K, show c + 1 + d = c + (d + 1) by omega]⟩
      · exact Or.inr ⟨fun e => t1 (e4 e), fun K => by rw [hU K]; exact t2 K, fun K => by rw [hM K]; exact t3 K⟩
    · have hw := hD.1
      subst hw
      refine ⟨sv, uA, uW, mL, S, Nat.le_refl _, by omega, hS, fun _ _ => rfl, hD, fun e => absurd e e0, Or.inr ⟨e0, fun K => ?_, fun K => ?_⟩⟩
      · rw [U_saveUnits_L5, if_neg hn, e1, Option.bind_some, if_pos rfl]
      · rw [M_save_L2, q_ck ho (by omega), q_ck ho (by omega), nI_clamp (by omega), hF, hS, if_neg hn, e2, Option.bind_some, if_pos rfl]
/-- saving, as flush and the others use it -/
theorem save_ok {op fl sv : Nat} (ho : op < 8) (hfl : fl ≤ 16) (hsv : sv ≤ fl) {mFil S : Nat → Int32} (hF : mFil op = nI fl) (hS : S op = nI sv) {uA uW mA mL mW mD : Int32} (hD : Dk uA uW mA mL mW) :
    ∃ (v : Nat) (a w l : Int32) (S' : Nat → Int32), v ≤ fl ∧ S' op = nI v ∧ (∀ s, s ≠ op → S' s = S s) ∧ Dk a w mA l w ∧ (uA = -1 → a = -1 ∧ v = fl) ∧
      ((v = fl ∧ U_saveUnits (nI fl) (nI sv) uA uW = some (1, nI fl, a, w) ∧ M_save (nI op) mD mA mL mW mFil S = some (nI (fl - sv), mD, l, w, S')) ∨
       (uA ≠ -1 ∧ U_saveUnits (nI fl) (nI sv) uA uW = some (0, nI v, a, w) ∧ M_save (nI op) mD mA mL mW mFil S = some (-4, 1, l, w, S'))) := by
  obtain ⟨v, a, w, l, S', r1, r2, r3, r4, r5, r6, r7⟩ := save_L ho hfl hF (mA := mA) (mD := mD) (fl - sv) sv 0 300 300 uA uW mL mW S (by omega) (by omega) (by omega) hS hD
  refine ⟨v, a, w, l, S', r2, r3, r4, r5, r6, ?_⟩
  rcases r7 with ⟨t1, t2, t3⟩ | ⟨t1, t2, t3⟩
  · refine Or.inl ⟨t1, ?_, ?_⟩
    · unfold U_saveUnits; rw [t2]
    · unfold M_save
      rw [show (0 : Int32) = nI 0 from rfl, t3, show 0 + (fl - sv) = fl - sv by omega]
  · refine Or.inr ⟨t1, ?_, ?_⟩
    · unfold U_saveUnits; rw [t2]
    · unfold M_save
      rw [show (0 : Int32) = nI 0 from rfl, t3]
theorem chk_L {uS cN cS cO cF : Int32} {cP : Nat → Int32} {kL kO kF nm mA mD : Int32} {S kA : Nat → Int32} : ∀ (d x fU fM : Nat) (uA uW mL mW : Int32), x + d = 20 → d < fU → d < fM → Dk uA uW mA mL mW →
    ∃ (a w l : Int32), Dk a w mA l w ∧ (uA = -1 → a = -1) ∧
      (((∀ K, U_makeCheckpoint_L11 uS cN cS cO cF cP K fU uA uW (nI x) = K a w (nI 20)) ∧ (∀ K, M_check_L11 kL kO kF nm mA S kA K fM mD mL mW (nI x) = K mD l w (nI 20))) ∨
       (uA ≠ -1 ∧ (∀ K, U_makeCheckpoint_L11 uS cN cS cO cF cP K fU uA uW (nI x) = some (0, uS, a, w, cN, cS, cO, cF, cP)) ∧ (∀ K, M_check_L11 kL kO kF nm mA S kA K fM mD mL mW (nI x) = some (0, kL, kO, kF, nm, 1, l, w, S, kA)))) := by
  intro d
  induction d with
  | zero =>
    intro x fU fM uA uW mL mW hx h1 h2 hD
    obtain ⟨f, rfl⟩ : ∃ f, fU = f + 1 := ⟨fU - 1, by omega⟩
    obtain ⟨q, rfl⟩ : ∃ f, fM = f + 1 := ⟨fM - 1, by omega⟩
    obtain rfl : x = 20 := by omega
    have hw := hD.1
    subst hw
    refine ⟨uA, uW, mL, hD, fun e => e, Or.inl ⟨fun K => ?_, fun K => ?_⟩⟩
    · rw [U_makeCheckpoint_L11, if_pos (by decide)]
    · rw [M_check_L11, if_pos (by decide)]
  | succ d ih =>
    intro x fU fM uA uW mL mW hx h1 h2 hD
    obtain ⟨f, rfl⟩ : ∃ f, fU = f + 1 := ⟨fU - 1, by omega⟩
    obtain ⟨q, rfl⟩ : ∃ f, fM = f + 1 := ⟨fM - 1, by omega⟩
    have hn : ¬ (20 : Int32) ≤ nI x := q_nle (a := 20) (by omega) (by omega) (by omega)
    rcases wu hD mD with ⟨a, w, l, e1, e2, e3, e4⟩ | ⟨e0, e1, e2⟩
    · obtain ⟨a', w', l', r1, r2, r3⟩ := ih (x + 1) f q a w l w (by omega) (by omega) (by omega) e3
      have hU : ∀ K, U_makeCheckpoint_L11 uS cN cS cO cF cP K (f + 1) uA uW (nI x) = U_makeCheckpoint_L11 uS cN cS cO cF cP K f a w (nI (x + 1)) := fun K => by
        rw [U_makeCheckpoint_L11, if_neg hn, e1, Option.bind_some, if_neg (show ¬ (1 : Int32) = 0 by decide), nI_1]
      have hM : ∀ K, M_check_L11 kL kO kF nm mA S kA K (q + 1) mD mL mW (nI x) = M_check_L11 kL kO kF nm mA S kA K q mD l w (nI (x + 1)) := fun K => by
        rw [M_check_L11, if_neg hn, e2, Option.bind_some, if_neg (show ¬ (1 : Int32) = 0 by decide), nI_1]
      refine ⟨a', w', l', r1, fun e => r2 (e4 e), ?_⟩
      rcases r3 with ⟨t1, t2⟩ | ⟨t0, t1, t2⟩
      · exact Or.inl ⟨fun K => by rw [hU K]; exact t1 K, fun K => by rw [hM K]; exact t2 K⟩
      · exact Or.inr ⟨fun e => t0 (e4 e), fun K => by rw [hU K]; exact t1 K, fun K => by rw [hM K]; exact t2 K⟩
    · have hw := hD.1
      subst hw
      refine ⟨uA, uW, mL, hD, fun e => e, Or.inr ⟨e0, fun K => ?_, fun K => ?_⟩⟩
      · rw [U_makeCheckpoint_L11, if_neg hn, e1, Option.bind_some, if_pos rfl]
      · rw [M_check_L11, if_neg hn, e2, Option.bind_some, if_pos rfl]
theorem keep_L (mAt : Nat → Int32) (K : (Nat → Int32) → Int32 → Option (Int32 × Int32 × Int32 × Int32 × Int32 × Int32 × Int32 × Int32 × (Nat → Int32) × (Nat → Int32))) : ∀ (d fuel k : Nat) (F : Nat → Int32), k + d = 16 → d < fuel → M_check_L44 mAt K fuel F (nI k) = K (cpB mAt F k k d) (nI 16) := by
  intro d
  induction d with
  | zero =>
    intro fuel k F hk hf
    obtain ⟨f, rfl⟩ : ∃ f, fuel = f + 1 := ⟨fuel - 1, by omega⟩
    obtain rfl : k = 16 := by omega
    rw [M_check_L44, if_pos (show (16 : Int32) ≤ nI 16 by decide), cpB_0]
  | succ d ih =>
    intro fuel k F hk hf
    obtain ⟨f, rfl⟩ : ∃ f, fuel = f + 1 := ⟨fuel - 1, by omega⟩
    rw [M_check_L44, if_neg (show ¬ (16 : Int32) ≤ nI k from q_nle (a := 16) (by omega) (by omega) (by omega)), q_ck (by omega) (by omega), q_ck (by omega) (by omega), nI_clamp (by omega), nI_1, ih f (k + 1) _ (by omega) (by omega), cpB_s]
theorem cpB_16 (b F : Nat → Int32) {k : Nat} (hk : k < 16) : cpB b F 0 0 16 k = b k := by
  unfold cpB; rw [if_pos (by omega)]; congr 1; omega
theorem cpy_16 (f g : Nat → Int32) {k : Nat} (hk : k < 16) : va_cpy f g (0 : Int32).toNatClampNeg (0 : Int32).toNatClampNeg (16 : Int32).toNatClampNeg k = f k := by
  show va_cpy f g 0 0 16 k = f k
  rw [pk_cpy_in (by omega) (by omega)]; congr 1; omega
/-- the checkpoint: made by both, or by neither -/
theorem check_ok {n : Nat} {op : Nat} {fl : Nat} {last : Nat} {kl : Nat} {ko : Nat} {kf : Nat} {st : Nat → Nat} {cn : Nat → Nat} {un : Nat → Nat} {sz : Nat → Nat} {sr : Nat → Nat} {bk : Nat → Nat} {so : Nat → Nat} {sav : Nat → Nat} {pa : Nat → Nat} {ka : Nat → Nat} {hi : Nat → Int64} {lo : Nat → Int64} {N : Nat} {uOpen : Int32} {uFill : Int32} {uSaved : Int32} {uSerial : Int32} {cSerial : Int32} {cOpen : Int32} {cFill : Int32} {uSts : Nat → Int32} {uPlcs : Nat → Int32} {cPlcs : Nat → Int32} {uSers : Nat → Int32} {uBlks : Nat → Int32} {uUnts : Nat → Int32} {uStos : Nat → Int32} {uHis : Nat → Int64} {uLos : Nat → Int64} {mSegs : Int32} {mOpen : Int32} {mLast : Int32} {mKLast : Int32} {mKOpen : Int32} {mKFill : Int32} {mSt : Nat → Int32} {mFil : Nat → Int32} {mSav : Nat → Int32} {mCnt : Nat → Int32} {mBlk : Nat → Int32} {mSto : Nat → Int32} {mUnt : Nat → Int32} {mSiz : Nat → Int32} {mSer : Nat → Int32} {mAt : Nat → Int32} {mKAt : Nat → Int32} {mHi : Nat → Int64} {mLo : Nat → Int64} {uA uW mA mL mW mD cNumber : Int32} (g : (GI n op fl last kl ko kf st cn un sz sr bk so sav pa ka)) (hu : (RU 0 N n op fl last kl ko kf st cn un sz sr bk so sav pa ka hi lo uOpen uFill uSaved uSerial cSerial cOpen cFill uSts uPlcs cPlcs uSers uBlks uUnts uStos uHis uLos)) (hm : (RM n op fl last kl ko kf st cn un sz sr bk so sav pa ka hi lo mSegs mOpen mLast mKLast mKOpen mKFill mSt mFil mSav mCnt mBlk mSto mUnt mSiz mSer mAt mKAt mHi mLo)) (hD : Dk uA uW mA mL mW) :
    (∃ (a w l : Int32) (S P Q : Nat → Int32), Dk a w mA l w ∧ (uA = -1 → a = -1) ∧
      U_makeCheckpoint uOpen uFill uSaved uSerial uA uW cNumber cSerial cOpen cFill cPlcs uPlcs = some (1, nI fl, a, w, cNumber + 1, nI last, nI op, nI fl, P) ∧
      M_check mOpen mLast mKLast mKOpen mKFill cNumber mD mA mL mW mFil mSav mAt mKAt = some (1, nI last, nI op, nI fl, cNumber + 1, mD, l, w, S, Q) ∧
      (GI n op fl last last op fl st cn un sz sr bk so (va_up sav op fl) pa pa) ∧ (RU 0 N n op fl last last op fl st cn un sz sr bk so (va_up sav op fl) pa pa hi lo uOpen uFill (nI fl) uSerial (nI last) (nI op) (nI fl) uSts uPlcs P uSers uBlks uUnts uStos uHis uLos) ∧
      (RM n op fl last last op fl st cn un sz sr bk so (va_up sav op fl) pa pa hi lo mSegs mOpen mLast (nI last) (nI op) (nI fl) mSt mFil S mCnt mBlk mSto mUnt mSiz mSer mAt Q mHi mLo)) ∨
    (∃ (v : Nat) (a w l : Int32) (S : Nat → Int32), Dk a w mA l w ∧ uA ≠ -1 ∧
      U_makeCheckpoint uOpen uFill uSaved uSerial uA uW cNumber cSerial cOpen cFill cPlcs uPlcs = some (0, nI v, a, w, cNumber, cSerial, cOpen, cFill, cPlcs) ∧
      M_check mOpen mLast mKLast mKOpen mKFill cNumber mD mA mL mW mFil mSav mAt mKAt = some (0, mKLast, mKOpen, mKFill, cNumber, 1, l, w, S, mKAt) ∧
      (GI n op fl last kl ko kf st cn un sz sr bk so (va_up sav op v) pa ka) ∧ (RU 0 N n op fl last kl ko kf st cn un sz sr bk so (va_up sav op v) pa ka hi lo uOpen uFill (nI v) uSerial cSerial cOpen cFill uSts uPlcs cPlcs uSers uBlks uUnts uStos uHis uLos) ∧ (RM n op fl last kl ko kf st cn un sz sr bk so (va_up sav op v) pa ka hi lo mSegs mOpen mLast mKLast mKOpen mKFill mSt mFil S mCnt mBlk mSto mUnt mSiz mSer mAt mKAt mHi mLo)) := by
  have g0 := g
  obtain ⟨⟨b1, b2, b3, b4, b5, b6, b7, b8, b9, b10⟩, -⟩ := g0
  have hu0 := hu
  have hm0 := hm
  obtain ⟨a1, rfl, rfl, rfl, rfl, -⟩ := hu0
  obtain ⟨m1, rfl, rfl, m4, m5, m6, m7, m8, -⟩ := hm0
  obtain ⟨v, a, w, l, S, r2, r3, r4, r5, r6, r7⟩ := save_ok (op := op) (by omega) b4 b5 m7 (m8 op b3).2.1 (mD := mD) hD
  rcases r7 with ⟨t1, t2, t3⟩ | ⟨t0, t2, t3⟩
  · subst t1
    obtain ⟨a', w', l', s1, s2, s3⟩ := chk_L (uS := nI v) (cN := cNumber) (cS := cSerial) (cO := cOpen) (cF := cFill) (cP := cPlcs) (kL := mKLast) (kO := mKOpen) (kF := mKFill) (nm := cNumber) (mA := mA) (mD := mD) (S := S) (kA := mKAt) 20 0 300 300 a w l w (by omega) (by omega) (by omega) r5
    have g1' := GI_sav g v (Nat.le_refl _)
    have u1 := RU_sav hu v
    have k1 := RM_sav hm v S r3 r4
    rcases s3 with ⟨s4, s5⟩ | ⟨s0, s4, s5⟩
    · refine Or.inl ⟨a', w', l', S, _, _, s1, fun e => s2 (r6 e).1, ?_, ?_, GI_check g1', RU_chk u1 b6 (va_cpy uPlcs cPlcs (0 : Int32).toNatClampNeg (0 : Int32).toNatClampNeg (16 : Int32).toNatClampNeg) (fun b hb => cpy_16 _ _ hb), RM_chk k1 (cpB mAt mKAt 0 0 16) (fun b hb => cpB_16 _ _ hb)⟩
      · unfold U_makeCheckpoint
        rw [t2, Option.bind_some, if_neg (show ¬ (1 : Int32) = 0 by decide)]
        rw [show (0 : Int32) = nI 0 from rfl, s4]
      · unfold M_check
        rw [t3, Option.bind_some, if_pos (show (0 : Int32) ≤ nI (v - sav op) from q_le (a := 0) (by omega) (by omega) (by omega))]
        rw [show (0 : Int32) = nI 0 from rfl, s5, keep_L mAt _ 16 300 0 mKAt (by omega) (by omega), q_ck (by omega) (by omega), nI_clamp (by omega), m7]
    · refine Or.inr ⟨v, a', w', l', S, s1, fun e => s0 (r6 e).1, ?_, ?_, g1', u1, k1⟩
      · unfold U_makeCheckpoint
        rw [t2, Option.bind_some, if_neg (show ¬ (1 : Int32) = 0 by decide)]
        rw [show (0 : Int32) = nI 0 from rfl, s4]
        rfl
      · unfold M_check
        rw [t3, Option.bind_some, if_pos (show (0 : Int32) ≤ nI (v - sav op) from q_le (a := 0) (by omega) (by omega) (by omega))]
        rw [show (0 : Int32) = nI 0 from rfl, s5]
        rfl
  · refine Or.inr ⟨v, a, w, l, S, r5, t0, ?_, ?_, GI_sav g v r2, RU_sav hu v, RM_sav hm v S r3 r4⟩
    · unfold U_makeCheckpoint
      rw [t2, Option.bind_some, if_pos rfl]
    · unfold M_check
      rw [t3, Option.bind_some, if_neg (show ¬ (0 : Int32) ≤ (-4 : Int32) by decide)]
