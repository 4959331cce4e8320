/-! S5b. all forms of a degree from 1 to 10, by tables that are proved -/
theorem bit_b (l i : Nat) : Nat.beq (Nat.land (Nat.shiftRight l i) 1) 1 = l.testBit i := by
  have e : Nat.land (Nat.shiftRight l i) 1 = l / 2 ^ i % 2 := by
    show (l >>> i) &&& 1 = _
    rw [Nat.and_one_is_mod, Nat.shiftRight_eq_div_pow]
  rw [e, Nat.testBit_eq_decide_div_mod_eq]
  have h := Nat.mod_lt (l / 2 ^ i) (show 0 < 2 by decide)
  generalize l / 2 ^ i % 2 = x at h ⊢
  rcases (show x = 0 ∨ x = 1 by omega) with h | h <;> subst h <;> rfl
noncomputable def kdv (b m u l : Nat) : Nat := Nat.rec (motive := fun _ => Nat → Nat) (fun l => l) (fun u ih l => ih (Bool.rec l (Nat.xor l (Nat.shiftLeft b u)) (Nat.beq (Nat.land (Nat.shiftRight l (Nat.add u m)) 1) 1))) u l
noncomputable def krst (f b : Nat) : Nat := kdv b (Nat.log2 b) (Nat.sub (Nat.add (Nat.log2 f) 1) (Nat.log2 b)) f
noncomputable def kdq (b m u l q : Nat) : Nat := Nat.rec (motive := fun _ => Nat → Nat → Nat) (fun _ q => q) (fun u ih l q => Bool.rec (ih l q) (ih (Nat.xor l (Nat.shiftLeft b u)) (Nat.lor q (Nat.shiftLeft 1 u))) (Nat.beq (Nat.land (Nat.shiftRight l (Nat.add u m)) 1) 1)) u l q
noncomputable def kquo (f b : Nat) : Nat := kdq b (Nat.log2 b) (Nat.sub (Nat.add (Nat.log2 f) 1) (Nat.log2 b)) f 0
theorem kdv_s (b m u l : Nat) : kdv b m (u + 1) l = kdv b m u (if l.testBit (u + m) = true then l ^^^ b <<< u else l) := by
  show kdv b m u (Bool.rec l (Nat.xor l (Nat.shiftLeft b u)) (Nat.beq (Nat.land (Nat.shiftRight l (u + m)) 1) 1)) = _
  rw [bit_b]
  cases l.testBit (u + m) <;> rfl
theorem kdv_is {b : Nat} : ∀ u l q, kdv b (bl b - 1) u l = (dv b u l q).1 := by
  intro u
  induction u with
  | zero => intro l q; rfl
  | succ u ih =>
    intro l q
    rw [kdv_s, dv]
    cases h : l.testBit (u + (bl b - 1)) with
    | true => rw [if_pos rfl, if_pos rfl]; exact ih _ _
    | false => rw [if_neg (by decide), if_neg (by decide)]; exact ih _ _
theorem kdq_is {b : Nat} : ∀ u l q, kdq b (bl b - 1) u l q = (dv b u l q).2 := by
  intro u
  induction u with
  | zero => intro l q; rfl
  | succ u ih =>
    intro l q
    show (Bool.rec (kdq b (bl b - 1) u l q) (kdq b (bl b - 1) u (Nat.xor l (Nat.shiftLeft b u)) (Nat.lor q (Nat.shiftLeft 1 u))) (Nat.beq (Nat.land (Nat.shiftRight l (u + (bl b - 1))) 1) 1) : Nat) = _
    rw [bit_b, dv]
    cases h : l.testBit (u + (bl b - 1)) with
    | true => rw [if_pos rfl]; exact ih _ _
    | false => rw [if_neg (by decide)]; exact ih _ _
theorem kdv_0 (b m : Nat) : ∀ u, kdv b m u 0 = 0 := by
  intro u
  induction u with
  | zero => rfl
  | succ u ih => rw [kdv_s, Nat.zero_testBit, if_neg (by decide)]; exact ih
theorem bl_log {a : Nat} (h : a ≠ 0) : bl a = Nat.log2 a + 1 := by unfold bl; rw [if_neg h]
theorem krst_is {f b : Nat} (hb : b ≠ 0) : krst f b = rst f b := by
  have h1 := bl_log hb
  by_cases hf : f = 0
  · subst hf
    have e : rst 0 b = 0 := by
      rw [rst, show dvu 0 b = 0 by rw [dvu, bl_0]; omega]
      rfl
    rw [e]
    exact kdv_0 _ _ _
  · have h2 := bl_log hf
    have e1 : Nat.log2 b = bl b - 1 := by omega
    have e2 : Nat.sub (Nat.add (Nat.log2 f) 1) (Nat.log2 b) = dvu f b := by
      show Nat.log2 f + 1 - Nat.log2 b = bl f + 1 - bl b
      omega
    unfold krst
    rw [e2, e1]
    exact kdv_is _ _ 0
theorem kquo_is {f b : Nat} (hb : b ≠ 0) (hf : f ≠ 0) : kquo f b = quo f b := by
  have h1 := bl_log hb
  have h2 := bl_log hf
  have e1 : Nat.log2 b = bl b - 1 := by omega
  have e2 : Nat.sub (Nat.add (Nat.log2 f) 1) (Nat.log2 b) = dvu f b := by
    show Nat.log2 f + 1 - Nat.log2 b = bl f + 1 - bl b
    omega
  unfold kquo
  rw [e2, e1]
  exact kdq_is _ _ 0
noncomputable def keu (n a b : Nat) : Nat := Nat.rec (motive := fun _ => Nat → Nat → Nat) (fun a _ => a) (fun _ ih a b => Bool.rec (ih b (krst a b)) a (Nat.beq b 0)) n a b
theorem keu_is : ∀ n a b, keu n a b = eu n a b := by
  intro n
  induction n with
  | zero => intro a b; rfl
  | succ n ih =>
    intro a b
    show (Bool.rec (keu n b (krst a b)) a (Nat.beq b 0) : Nat) = eu (n + 1) a b
    rw [eu]
    cases b with
    | zero => rfl
    | succ b =>
      rw [if_neg (by omega), krst_is (by omega)]
      exact ih _ _
noncomputable def kst (m k x : Nat) : Nat := Nat.land (Nat.xor x (Nat.shiftLeft x k)) m
noncomputable def ksq (x : Nat) : Nat := kst 1431655765 1 (kst 858993459 2 (kst 252645135 4 (kst 16711935 8 x)))
theorem kst_x (m k x y : Nat) : kst m k (x ^^^ y) = kst m k x ^^^ kst m k y := by
  show ((x ^^^ y) ^^^ ((x ^^^ y) <<< k)) &&& m = ((x ^^^ x <<< k) &&& m) ^^^ ((y ^^^ y <<< k) &&& m)
  rw [shl_lin]
  apply Nat.eq_of_testBit_eq
  intro i
  rw [Nat.testBit_and, Nat.testBit_xor, Nat.testBit_xor, Nat.testBit_xor, Nat.testBit_xor, Nat.testBit_and, Nat.testBit_xor, Nat.testBit_and, Nat.testBit_xor]
  cases x.testBit i <;> cases y.testBit i <;> cases (x <<< k).testBit i <;> cases (y <<< k).testBit i <;> cases m.testBit i <;> rfl
theorem ksq_x (x y : Nat) : ksq (x ^^^ y) = ksq x ^^^ ksq y := by
  unfold ksq
  rw [kst_x, kst_x, kst_x, kst_x]
theorem sq_lin (x y : Nat) : cl ((x ^^^ y) % 2 ^ 11) ((x ^^^ y) % 2 ^ 11) = cl (x % 2 ^ 11) (x % 2 ^ 11) ^^^ cl (y % 2 ^ 11) (y % 2 ^ 11) := by
  have hx := Nat.mod_lt x (show 0 < 2 ^ 11 by decide)
  have hy := Nat.mod_lt y (show 0 < 2 ^ 11 by decide)
  rw [Nat.xor_mod_two_pow]
  generalize x % 2 ^ 11 = a at *
  generalize y % 2 ^ 11 = b at *
  rw [cl_xl, cl_xr, cl_xr, cl_comm (a := b) (b := a) (by omega) (by omega), Nat.xor_assoc, ← Nat.xor_assoc (cl a b) (cl a b), Nat.xor_self, Nat.zero_xor]
theorem sq_pow : ∀ i, i < 11 → ksq (2 ^ i % 2 ^ 11) = cl (2 ^ i % 2 ^ 11) (2 ^ i % 2 ^ 11) := by decide +kernel
theorem ksq_is {x : Nat} (h : x < 2048) : ksq x = sqM x := by
  have h' : x < 2 ^ 11 := by omega
  have e := mx_ind (f := fun x => ksq (x % 2 ^ 11)) (g := fun x => cl (x % 2 ^ 11) (x % 2 ^ 11)) (fun x y => by show ksq ((x ^^^ y) % 2 ^ 11) = ksq (x % 2 ^ 11) ^^^ ksq (y % 2 ^ 11); rw [Nat.xor_mod_two_pow, ksq_x]) (fun x y => sq_lin x y) 11 (fun i hi => sq_pow i hi) x h'
  have e : ksq (x % 2 ^ 11) = cl (x % 2 ^ 11) (x % 2 ^ 11) := e
  rw [Nat.mod_eq_of_lt h', sqM_is h] at e
  exact e
noncomputable def kall (p : Nat → Bool) (n : Nat) : Bool := Nat.rec (motive := fun _ => Bool) true (fun k ih => Bool.rec false (p k) ih) n
theorem kall_is {p : Nat → Bool} : ∀ n, kall p n = true → ∀ i, i < n → p i = true := by
  intro n
  induction n with
  | zero => intro _ i hi; omega
  | succ n ih =>
    intro h i hi
    have h : (Bool.rec false (p n) (kall p n) : Bool) = true := h
    cases hk : kall p n with
    | false => rw [hk] at h; cases h
    | true =>
      rw [hk] at h
      rcases Nat.lt_or_ge i n with h1 | h1
      · exact ih hk i h1
      · rw [show i = n by omega]; exact h
/-! the least divisors, in a table -/
noncomputable def lpTT : Nat := 40135660633800636807932590059783539070658139634166704097002205255938363899560812241701270285096412341858906957630972828151417014873764321839481083699901007341308388281841326509748219345884818265382996231713561675725772394497515091889266851949780824918505167975020715692926177883981598160334378679828572987363069757696371968827845769767214402914671790969961293311098500132299204956897615614965345560738517560401812175796645129286548774196453428761743920695458585176093930728535621828343604214193467440651080539524169050059249376180079906401085908359271776159661554244441189232987310255729955866808294888369023223255330880687676308554680556605103072967084900762939288918671198194170688238311610764588415322626194521624102564650590357229509527558615362613386541485554414359242259071950829563495553726676899308906267350174661742483573118629301404511809019780598175137689731406185693074884994079541242223752666388200277908813343372350225296952961259581766935449666282604209967684983226740302389401991440744845079154165173063369377055492995826782344741261094154977489261425072600914997638884537204757430437280783754693946224311895884325773927330830812782285972111478445914030163108625759082876178007694011783849740167820902274968819020916043723632597123503975259571474951020396509050208109299776266589080570186227567486355008267508002558911311620409831546710137935369012187238675497890380707191166983277717520586670573422115319667972182630930151040363279278904357996809663058689793331347811478262457464337668593673376505380221521369721398888191915222243006976774385323550555814320448696581134015535401357826891090121889440685304555596032341585404939751567222576361115717160320281400594619730316808968190785731737948578215490390475269365491768896831657787408072705947961743432117525099017075977535042525086332300501087802081498084685595338102679387722503512750825447005800017975579201644689924008142580735785127840051931920960833368286852109900897748940753359897957118570116055142660854089187690393283295089658423516593429420668980564053388611490766474598950573818407199927912599474648641794544540997520801824732411533370780062045303862152914047941542935214540211550404254543407404700471306671778357068337917871003163135921851487675591129145152661799957862726020539149318798777592639872625115469247102613353242247597688920377098072889639595062325298161518294239943988205474098781763540893034934143797395869159967763135036459046909926500443175474754120414698784385975652539883733808602874230467274447504091017019120028051405522775807501816308135918415569216477093735413479675742029258199090461289622693947820333741277648904769830865120971022939390337379467741018457587389822889087818276133794692218070205132624452395671682140497002992556435340998199211171533168198825649050566608365460539888486400715788789857812954697699981587499572705749933455636616003580769782124812895396988650609592181307300403420052343952307686398795878381075561049029975718317888264827158911361078294877719244840370018639150673466087986495201566028725200470341424068233268373467767358934695577700384548772928135414907754353336632813345280166936030922443990038520486549364473320391038778187102113986237345777221829744687553438239178080558791146667794544559754018116682635371824446332981723200330481877422186745779783875619726884593469816251834200222369186787951608407785415140392077862173331979043899715352231415630066566957806300304509897039510730397341567995554049171757378121632032840908790440868161286498016993280851703612225026710029756658134622233369549534205335585831242052204397945425886161522267944021178379017198510901418576619373048585138797116153756001474908838254523323592365572329195851446998974493934897908379517912582667499092299621648948775577178648402991602069715087918102468492959944311617362939029128937200989545116550463116552772503034105538961323817561588116325002404273426214907211966591957530071349356398139340494982783144336693992353567092595711278324528182583087283592726027089836234324182964694505461653601850551612558777349009763450884757732127753056878968425421897814831383366450170876634879304846025146441736090293298715383914626409551159874036875761794591262325236671140791870447284048062217152981445100379146740533632781895273857063526827455216102076307068697041742492224335754486063433849111862639059347941977735238340701302041796861300568111176914945847997084057563168045328351476587442158378405433642645482824707316773251980496354776491482671711354919020592316913501173394990492573928578459797184452578962597629286753638362857595713465419635714708106669909875811262672600906911756683142828787440965583456032246489394163863377212275713130301145120892323004101990388888134113923685579561478401736678402910536988150441767194045397695133340574219615774783848868279320955474675381391185446806315006607114126544673866607403819177073861925966042074175252589399456277473546807008233844929804783362608807953293437907579937505547257735397061098149388627565454280535136990271458025417410602498645080319250184843421365037280732464953144165033479659098714613904542311299143292292411192312041987834349909728100128565721508966502457648897427586899868680260947242924004494626814797428344593740589155588975516000069587370404176365837262245611045918693212508357144359458407581864955400136899557806941330352205480839647838939046829762236963338802730336166375103849582711030518801615222245999887841108029342686573127978497640959656886128329557614776058352565308188596448725142125360268389771456306114440302659804838076479589014228835752802042643537933564269200041757518281399262533684261819979412174733882665077960543031051418590204596049249559822678645986565270152275220905474703043789655351010183637956126946145591118268644086039875949088951174200545732590076613853999730178597429316340950596527705229183787187414699050246790464761874605041443235121870340193146808551950534454977295755851543773500508760284225931797363351560887812580492730613989162057174801502006062597321017964830221340345581692906641284723670395457431605503173418306636467746374281236983446718557498907881439465766113003310693184574554443624121832093300276288215465357861807356052356844948752597569056338118920369402275357286291799103578587206167873838800122015272162042577051199357181923589652821269429318387285188583409283141900919681726486338342345282002751295805908653202253949630458505483499993642770761305908950841108075241838841513531459167447031627625352367964026372900724578426563675308086203622690100331534569787090726536575800812992757713530988638592255473807560520605352858719428315182033509442133901635433381445197240304928235152728269357010512061334339854209318061042140519216884178103826254807752522549717514686301980499961923327327291667478597474404138669235603218901997424071193238732106214536085027763276998508544
noncomputable def lpT (l : Nat) : Nat := Nat.land (Nat.shiftRight lpTT (Nat.mul 11 l)) 2047
noncomputable def kls (l F t : Nat) : Nat := Nat.rec (motive := fun _ => Nat → Nat) (fun _ => 0) (fun _ ih t => Bool.rec (Bool.rec (ih (Nat.add t 1)) t (Nat.beq (krst l t) 0)) l (Nat.ble (Nat.add (Nat.log2 l) 1) (Nat.mul 2 (Nat.log2 t)))) F t
theorem kls_is {l : Nat} (hl : l ≠ 0) : ∀ F t F', F ≤ F' → t ≠ 0 → t + F ≤ 2046 → kls l F t ≠ 0 → lsM F' l t = some (kls l F t) := by
  intro F
  induction F with
  | zero => intro t F' _ _ _ h; exact absurd rfl h
  | succ F ih =>
    intro t F' hF ht hb h
    obtain ⟨F', rfl⟩ : ∃ k, F' = k + 1 := ⟨F' - 1, by omega⟩
    have e : kls l (F + 1) t = Bool.rec (Bool.rec (kls l F (t + 1)) t (Nat.beq (krst l t) 0)) l (Nat.ble (Nat.log2 l + 1) (2 * Nat.log2 t)) := rfl
    rw [e] at h ⊢
    have h1 := bl_log hl
    have h2 := bl_log ht
    rw [lsM, if_pos ⟨ht, by omega⟩]
    cases hc : Nat.ble (Nat.log2 l + 1) (2 * Nat.log2 t) with
    | true =>
      have := Nat.le_of_ble_eq_true hc
      rw [if_pos (by omega)]
    | false =>
      have hn : ¬ (Nat.log2 l + 1 ≤ 2 * Nat.log2 t) := fun h9 => by rw [Nat.ble_eq_true_of_le h9] at hc; cases hc
      rw [if_neg (by omega)]
      rw [hc] at h
      have h : (Bool.rec (kls l F (t + 1)) t (Nat.beq (krst l t) 0) : Nat) ≠ 0 := h
      cases hz : Nat.beq (krst l t) 0 with
      | true =>
        have := Nat.eq_of_beq_eq_true hz
        rw [krst_is ht] at this
        rw [if_pos this]
      | false =>
        rw [hz] at h
        have h : kls l F (t + 1) ≠ 0 := h
        rw [if_neg (fun h9 => by rw [← krst_is ht] at h9; rw [h9] at hz; cases hz)]
        exact ih (t + 1) F' (by omega) (by omega) (by omega) h
set_option maxRecDepth 100000 in
theorem lp_tab : kall (fun i => Nat.beq (kls (Nat.add i 2) 70 2) (lpT (Nat.add i 2))) 2046 = true := by decide +kernel
set_option maxRecDepth 100000 in
theorem lp_pos : kall (fun i => Nat.ble 2 (lpT (Nat.add i 2))) 2046 = true := by decide +kernel
theorem lp_is {l : Nat} (h2 : 2 ≤ l) (h : l < 2048) : lsM 200 l 2 = some (lpT l) ∧ 2 ≤ lpT l := by
  have e := Nat.eq_of_beq_eq_true (kall_is 2046 lp_tab (l - 2) (by omega))
  have e2 := Nat.le_of_ble_eq_true (kall_is 2046 lp_pos (l - 2) (by omega))
  have ea : Nat.add (l - 2) 2 = l := by show l - 2 + 2 = l; omega
  rw [ea] at e e2
  refine ⟨?_, e2⟩
  rw [← e]
  exact kls_is (by omega) 70 2 200 (by decide) (by decide) (by decide) (by rw [e]; omega)
/-! what a divisor is -/
theorem rst_00 {b : Nat} : rst 0 b = 0 ∨ b = 0 := by
  by_cases hb : b = 0
  · exact Or.inr hb
  · refine Or.inl ?_
    have := bl_pos hb
    rw [rst, show dvu 0 b = 0 by rw [dvu, bl_0]; omega]
    rfl
theorem dv_q {l b : Nat} (hb : b ≠ 0) (hl : l < 2 ^ 62) (hb2 : b < 2 ^ 62) (h : rst l b = 0) : l = cl b (quo l b) := by
  obtain ⟨e, _, _⟩ := dm_spec hb hl hb2
  rw [h, Nat.xor_zero] at e
  exact e.symm
theorem q_dv {b q : Nat} (hb : b ≠ 0) (hb2 : b < 2 ^ 61) (hq : q < 2 ^ 61) (hc : cl b q < 2 ^ 62) : rst (cl b q) b = 0 ∧ quo (cl b q) b = q :=
  rst_uniq hb hc (by omega) (by rw [Nat.xor_zero]) (by omega) (Nat.two_pow_pos _)
theorem quo_lt {l b : Nat} (hl : l < 2048) (h0 : l ≠ 0) (hb : 2 ≤ b) (hb2 : b < 2048) (h : rst l b = 0) : quo l b ≠ 0 ∧ bl (quo l b) + 1 ≤ bl l ∧ quo l b < 2048 ∧ bl (quo l b) + bl b = bl l + 1 := by
  have e := dv_q (by omega) (by omega) (by omega) h
  have h2 : 2 ≤ bl b := bl_gt.mpr (by omega)
  have hq0 : quo l b ≠ 0 := fun h9 => by rw [h9, cl_0r] at e; exact h0 e
  have hbl : bl b ≤ bl l := by
    rcases Nat.lt_or_ge (bl l) (bl b) with h9 | h9
    · exact absurd (quo_bl0 h9) hq0
    · exact h9
  have hq := quo_bl (f := l) (b := b) (by omega) (by omega) (by omega) hbl
  have h11 : bl l ≤ 11 := bl_le.mpr (by omega)
  exact ⟨hq0, by omega, bl_le.mp (show bl (quo l b) ≤ 11 by omega), by omega⟩
theorem dv_tr {l t s : Nat} (hl : l < 2048) (h0 : l ≠ 0) (ht : 2 ≤ t) (ht2 : t < 2048) (hs : 2 ≤ s) (hs2 : s < 2048) (h : rst l t = 0) (h2 : rst (quo l t) s = 0) : rst l s = 0 := by
  obtain ⟨q0, q1, q2, q3⟩ := quo_lt hl h0 ht ht2 h
  obtain ⟨r0, r1, r2, r3⟩ := quo_lt q2 q0 hs hs2 h2
  have e1 := dv_q (by omega) (by omega) (by omega) h
  have e2 := dv_q (by omega) (by omega) (by omega) h2
  have h11 : bl l ≤ 11 := bl_le.mpr (by omega)
  have b1 : bl t ≤ 11 := bl_le.mpr (by omega)
  have b2 : bl s ≤ 11 := bl_le.mpr (by omega)
  have e3 : l = cl s (cl t (quo (quo l t) s)) := by
    have a1 : cl t (cl s (quo (quo l t) s)) = cl s (cl t (quo (quo l t) s)) := by
      rw [← cl_assoc (a := t) (b := s) (c := quo (quo l t) s) (by omega) (by omega) (by omega), cl_comm (a := t) (b := s) (by omega) (by omega), cl_assoc (a := s) (b := t) (c := quo (quo l t) s) (by omega) (by omega) (by omega)]
    rw [← a1, ← e2]
    exact e1
  have hc := cl_ble t (b := quo (quo l t) s) (by omega)
  have hq : cl t (quo (quo l t) s) < 2 ^ 30 := bl_le.mp (by omega)
  rw [e3]
  exact (q_dv (by omega) (by omega) (by omega) (by rw [← e3]; omega)).1
theorem rst_ll {l : Nat} (h0 : l ≠ 0) (hl : l < 2048) : rst l l = 0 ∧ quo l l = 1 := by
  have := q_dv (b := l) (q := 1) h0 (by omega) (by decide) (by rw [cl_1]; omega)
  rw [cl_1] at this
  exact this
/-! the factors by the table -/
noncomputable def fcF : Nat → Nat → List Nat
  | 0, _ => []
  | F + 1, l => if l < 2 then [] else lpT l :: fcF F (quo l (lpT l))
noncomputable def fct (l : Nat) : List Nat := fcF 12 l
theorem ls_or {l : Nat} : ∀ F t v, lsM F l t = some v → t ≤ v ∧ (v = l ∨ (rst l v = 0 ∧ 2 * bl v ≤ bl l + 1)) ∨ v = l := by
  intro F
  induction F with
  | zero => intro t v h; cases h
  | succ F ih =>
    intro t v h
    rw [lsM] at h
    by_cases hc : t ≠ 0 ∧ t < 2047
    · rw [if_pos hc] at h
      by_cases h1 : bl l + 1 < 2 * bl t
      · rw [if_pos h1] at h
        exact Or.inr (Option.some.inj h).symm
      · rw [if_neg h1] at h
        by_cases h3 : rst l t = 0
        · rw [if_pos h3] at h
          have e := Option.some.inj h
          subst e
          exact Or.inl ⟨Nat.le_refl _, Or.inr ⟨h3, by omega⟩⟩
        · rw [if_neg h3] at h
          rcases ih (t + 1) v h with ⟨a, b⟩ | b
          · exact Or.inl ⟨by omega, b⟩
          · exact Or.inr b
    · rw [if_neg hc] at h; cases h
theorem lp_dv {l : Nat} (h2 : 2 ≤ l) (h : l < 2048) : 2 ≤ lpT l ∧ lpT l < 2048 ∧ rst l (lpT l) = 0 := by
  obtain ⟨e, h3⟩ := lp_is h2 h
  rcases ls_or 200 2 _ e with ⟨_, h4 | ⟨h4, h5⟩⟩ | h4
  · rw [h4]; exact ⟨h2, h, (rst_ll (by omega) h).1⟩
  · have h11 : bl l ≤ 11 := bl_le.mpr (by omega)
    exact ⟨h3, Nat.lt_trans (bl_le.mp (show bl (lpT l) ≤ 6 by omega)) (by decide), h4⟩
  · rw [h4]; exact ⟨h2, h, (rst_ll (by omega) h).1⟩
theorem fc_fuel : ∀ F G l, l < 2048 → bl l < F + 1 → bl l < G + 1 → fcF F l = fcF G l := by
  intro F
  induction F with
  | zero =>
    intro G l hl h1 h2
    have : l = 0 := bl_eq0.mp (by omega)
    subst this
    cases G with
    | zero => rfl
    | succ G => rw [fcF, fcF, if_pos (by decide)]
  | succ F ih =>
    intro G l hl h1 h2
    by_cases h : l < 2
    · cases G with
      | zero => rw [fcF, fcF, if_pos h]
      | succ G => rw [fcF, fcF, if_pos h, if_pos h]
    · have hb : 2 ≤ bl l := bl_gt.mpr (by omega)
      obtain ⟨G, rfl⟩ : ∃ k, G = k + 1 := ⟨G - 1, by omega⟩
      obtain ⟨p1, p2, p3⟩ := lp_dv (l := l) (by omega) hl
      obtain ⟨_, q1, q2, _⟩ := quo_lt hl (by omega) p1 p2 p3
      rw [fcF, fcF, if_neg h, if_neg h, ih G _ q2 (by omega) (by omega)]
theorem fct_1 : fct 1 = [] := by
  unfold fct
  rw [fcF, if_pos (by decide)]
theorem fct_s {l : Nat} (h2 : 2 ≤ l) (h : l < 2048) : fct l = lpT l :: fct (quo l (lpT l)) := by
  obtain ⟨p1, p2, p3⟩ := lp_dv h2 h
  obtain ⟨_, q1, q2, _⟩ := quo_lt h (by omega) p1 p2 p3
  have h11 : bl l ≤ 11 := bl_le.mpr (by omega)
  unfold fct
  rw [fcF, if_neg (by omega), fc_fuel 11 12 _ q2 (by omega) (by omega)]
theorem fct_len : ∀ k l, bl l ≤ k → l < 2048 → l ≠ 0 → (fct l).length + 1 ≤ bl l := by
  intro k
  induction k with
  | zero => intro l h1 _ h0; exact absurd (bl_eq0.mp (by omega)) h0
  | succ k ih =>
    intro l h1 hl h0
    by_cases h : l < 2
    · have : l = 1 := by omega
      subst this
      rw [fct_1]
      decide +kernel
    · obtain ⟨p1, p2, p3⟩ := lp_dv (l := l) (by omega) hl
      obtain ⟨q0, q1, q2, _⟩ := quo_lt hl h0 p1 p2 p3
      have := ih _ (by omega) q2 q0
      rw [fct_s (by omega) hl, List.length_cons]
      omega
/-- the reference finds them -/
theorem l9_fct : ∀ k l F L, bl l ≤ k → l < 2048 → l ≠ 0 → bl l ≤ F → L.length + bl l ≤ 12 → l9M F l L = some (L ++ fct l) := by
  intro k
  induction k with
  | zero => intro l F L h1 _ h0; exact absurd (bl_eq0.mp (by omega)) h0
  | succ k ih =>
    intro l F L h1 hl h0 hF hL
    have hp := bl_pos h0
    obtain ⟨F, rfl⟩ : ∃ j, F = j + 1 := ⟨F - 1, by omega⟩
    rw [l9M, if_pos ⟨hl, by omega⟩]
    by_cases h : l < 2
    · have : l = 1 := by omega
      subst this
      rw [if_pos (by decide +kernel), fct_1, List.append_nil]
    · have hb : 2 ≤ bl l := bl_gt.mpr (by omega)
      obtain ⟨e, _⟩ := lp_is (l := l) (by omega) hl
      obtain ⟨p1, p2, p3⟩ := lp_dv (l := l) (by omega) hl
      obtain ⟨q0, q1, q2, _⟩ := quo_lt hl h0 p1 p2 p3
      rw [if_neg (by omega), e]
      show (if lpT l ≠ 0 ∧ lpT l < 2048 then l9M F (quo l (lpT l)) (L ++ [lpT l]) else none) = _
      rw [if_pos ⟨by omega, p2⟩, ih _ F (L ++ [lpT l]) (by omega) q2 q0 (by omega) (by rw [len_snoc]; omega), fct_s (by omega) hl, List.append_assoc]
      rfl
/-- so does the class by trying -/
theorem ls_find {l t : Nat} (ht : t < 2047) (h1 : 2 * bl t ≤ bl l + 1) (h2 : rst l t = 0) : ∀ F s, s ≤ t → 2 ≤ s → t - s < F → (∀ r, s ≤ r → r < t → rst l r ≠ 0) → lsM F l s = some t := by
  intro F
  induction F with
  | zero => intro s _ _ h; omega
  | succ F ih =>
    intro s hs hs2 hF hn
    have hb := bl_mono hs
    rw [lsM, if_pos ⟨by omega, by omega⟩, if_neg (by omega)]
    rcases Nat.lt_or_ge s t with h | h
    · rw [if_neg (hn s (Nat.le_refl _) h)]
      exact ih (s + 1) (by omega) (by omega) (by omega) (fun r h3 h4 => hn r (by omega) h4)
    · have : s = t := by omega
      subst this
      rw [if_pos h2]
theorem ls_pr {l t : Nat} (ht : t < 2047) (h1 : bl l + 1 < 2 * bl t) : ∀ F s, s ≤ t → 2 ≤ s → t - s < F → (∀ r, s ≤ r → r < t → rst l r ≠ 0) → lsM F l s = some l := by
  intro F
  induction F with
  | zero => intro s _ _ h; omega
  | succ F ih =>
    intro s hs hs2 hF hn
    rw [lsM, if_pos ⟨by omega, by omega⟩]
    by_cases hc : bl l + 1 < 2 * bl s
    · rw [if_pos hc]
    · rw [if_neg hc]
      rcases Nat.lt_or_ge s t with h | h
      · rw [if_neg (hn s (Nat.le_refl _) h)]
        exact ih (s + 1) (by omega) (by omega) (by omega) (fun r h3 h4 => hn r (by omega) h4)
      · have : s = t := by omega
        subst this
        omega
theorem tr_1 (F t : Nat) (L : List Nat) (ht : t ≠ 0) (ht2 : t < 2048) (hL : L.length < 12) : trM (F + 1) 1 t L = some L := by
  rw [trM, if_pos ⟨by decide, ht, ht2, hL⟩, if_pos (by decide +kernel)]
theorem tr_fct : ∀ F l t L, l < 2048 → l ≠ 0 → 2 ≤ t → t ≤ 64 → (∀ s, 2 ≤ s → s < t → rst l s ≠ 0) → L.length + bl l ≤ 12 → (64 - t) + bl l + 2 ≤ F → trM F l t L = some (L ++ fct l) := by
  intro F
  induction F with
  | zero => intro l t L _ _ _ _ _ _ h; omega
  | succ F ih =>
    intro l t L hl h0 ht ht2 hn hL hF
    have hp := bl_pos h0
    have h11 : bl l ≤ 11 := bl_le.mpr (by omega)
    rw [trM, if_pos ⟨hl, by omega, by omega, by omega⟩]
    by_cases h : l < 2
    · have : l = 1 := by omega
      subst this
      rw [if_pos (by decide +kernel), fct_1, List.append_nil]
    · have hb : 2 ≤ bl l := bl_gt.mpr (by omega)
      obtain ⟨e, _⟩ := lp_is (l := l) (by omega) hl
      rw [if_neg (by omega)]
      by_cases h1 : 2 * bl t ≤ bl l + 1
      · have ht6 : t < 2 ^ 6 := bl_le.mp (by omega)
        rw [if_pos h1]
        by_cases h2 : rst l t = 0
        · have e2 := ls_find (l := l) (t := t) (by omega) h1 h2 200 2 ht (Nat.le_refl _) (by omega) (fun r h3 h4 => hn r h3 h4)
          rw [e] at e2
          have e2 : lpT l = t := Option.some.inj e2
          obtain ⟨q0, q1, q2, _⟩ := quo_lt hl h0 ht (by omega) h2
          rw [if_pos h2, ih (quo l t) t (L ++ [t]) q2 q0 ht ht2 (fun s h3 h4 h9 => hn s h3 h4 (dv_tr hl h0 ht (by omega) h3 (by omega) h2 h9)) (by rw [len_snoc]; omega) (by omega), fct_s (by omega) hl, e2, List.append_assoc]
          rfl
        · rw [if_neg h2]
          refine ih l (t + 1) L hl h0 (by omega) (by omega) (fun s h3 h4 => ?_) hL (by omega)
          rcases Nat.lt_or_ge s t with h9 | h9
          · exact hn s h3 h9
          · rw [show s = t by omega]; exact h2
      · have e2 := ls_pr (l := l) (t := t) (by omega) (by omega) 200 2 ht (Nat.le_refl _) (by omega) (fun r h3 h4 => hn r h3 h4)
        rw [e] at e2
        have e2 : lpT l = l := Option.some.inj e2
        obtain ⟨r1, r2⟩ := rst_ll h0 hl
        obtain ⟨F, rfl⟩ : ∃ j, F = j + 1 := ⟨F - 1, by omega⟩
        rw [if_neg h1, if_pos r1, r2, tr_1 F l _ h0 hl (by rw [len_snoc]; omega), fct_s (by omega) hl, e2, r2, fct_1]
/-! by degrees -/
noncomputable def kr (l d : Nat) : Nat := Nat.rec (motive := fun _ => Nat) (krst 2 l) (fun _ ih => krst (ksq ih) l) d
theorem kr_is {l : Nat} (h0 : l ≠ 0) (hl : l < 2048) : ∀ d, kr l d = rsM l d := by
  intro d
  induction d with
  | zero => exact krst_is h0
  | succ d ih =>
    show krst (ksq (kr l d)) l = _
    have := rs_lt h0 hl d
    rw [ih, rsM, krst_is h0, ksq_is (by omega)]
noncomputable def kg (l d : Nat) : Nat := keu 64 l (Nat.xor (kr l d) 2)
theorem kg_is {l : Nat} (h0 : l ≠ 0) (hl : l < 2048) (d : Nat) : kg l d = co l (rsM l d ^^^ 2) := by
  unfold kg
  rw [keu_is, kr_is h0 hl]
  rfl
noncomputable def kdo (b u l : Nat) (L : List Nat) : Nat × List Nat := Nat.rec (motive := fun _ => Nat → List Nat → Nat × List Nat) (fun l L => (l, L)) (fun _ ih l L => Bool.rec (l, L) (ih (kquo l b) (L ++ [b])) (Nat.beq (krst l b) 0)) u l L
theorem kdo_s (b u l : Nat) (L : List Nat) : kdo b (u + 1) l L = Bool.rec (l, L) (kdo b u (kquo l b) (L ++ [b])) (Nat.beq (krst l b) 0) := rfl
theorem kdo_is {b : Nat} (hb : 2 ≤ b) (hb2 : b < 2048) : ∀ u l L, l < 2048 → l ≠ 0 → L.length + bl l ≤ 12 → doM b u l L = some (kdo b u l L) ∧ (kdo b u l L).1 < 2048 ∧ (kdo b u l L).1 ≠ 0 ∧ (kdo b u l L).2.length + bl (kdo b u l L).1 ≤ 12 ∧ ((kdo b u l L).1 = l ∨ bl (kdo b u l L).1 < bl l) := by
  intro u
  induction u with
  | zero => intro l L hl h0 hL; exact ⟨rfl, hl, h0, hL, Or.inl rfl⟩
  | succ u ih =>
    intro l L hl h0 hL
    have hp := bl_pos h0
    rw [kdo_s, doM, if_pos ⟨hl, by omega⟩]
    cases hz : Nat.beq (krst l b) 0 with
    | true =>
      have h2 := Nat.eq_of_beq_eq_true hz
      rw [krst_is (by omega)] at h2
      obtain ⟨q0, q1, q2, _⟩ := quo_lt hl h0 hb hb2 h2
      rw [if_pos h2, kquo_is (by omega) h0]
      obtain ⟨a1, a2, a3, a4, a5⟩ := ih (quo l b) (L ++ [b]) q2 q0 (by rw [len_snoc]; omega)
      exact ⟨a1, a2, a3, a4, Or.inr (by
        show bl (kdo b u (quo l b) (L ++ [b])).1 < bl l
        rcases a5 with h9 | h9
        · rw [h9]; omega
        · omega)⟩
    | false =>
      rw [if_neg (fun h9 => by rw [← krst_is (by omega)] at h9; rw [h9] at hz; cases hz)]
      exact ⟨rfl, hl, h0, hL, Or.inl rfl⟩
theorem kdo_app (b : Nat) (M : List Nat) : ∀ u l L, kdo b u l (M ++ L) = ((kdo b u l L).1, M ++ (kdo b u l L).2) := by
  intro u
  induction u with
  | zero => intro l L; rfl
  | succ u ih =>
    intro l L
    rw [kdo_s, kdo_s]
    cases Nat.beq (krst l b) 0 with
    | true =>
      show kdo b u (kquo l b) (M ++ L ++ [b]) = ((kdo b u (kquo l b) (L ++ [b])).1, M ++ (kdo b u (kquo l b) (L ++ [b])).2)
      rw [List.append_assoc, ih]
    | false => rfl
noncomputable def kd5 : List Nat → Nat → List Nat → Nat × List Nat
  | [], l, L => (l, L)
  | b :: P, l, L => kd5 P (kdo b 10 l L).1 (kdo b 10 l L).2
theorem kd5_app (M : List Nat) : ∀ P l L, kd5 P l (M ++ L) = ((kd5 P l L).1, M ++ (kd5 P l L).2) := by
  intro P
  induction P with
  | nil => intro l L; rfl
  | cons b P ih => intro l L; rw [kd5, kd5, kdo_app, ih]
theorem kd5_is (P : List Nat) : ∀ Q k l L, P.drop k = Q → (∀ b, b ∈ Q → 2 ≤ b ∧ b < 2048) → l < 2048 → l ≠ 0 → L.length + bl l ≤ 12 → d5M P Q.length k l L = some (kd5 Q l L) ∧ (kd5 Q l L).1 < 2048 ∧ (kd5 Q l L).1 ≠ 0 ∧ (kd5 Q l L).2.length + bl (kd5 Q l L).1 ≤ 12 ∧ ((kd5 Q l L).1 = l ∨ bl (kd5 Q l L).1 < bl l) := by
  intro Q
  induction Q with
  | nil => intro k l L _ _ hl h0 hL; exact ⟨rfl, hl, h0, hL, Or.inl rfl⟩
  | cons b Q ih =>
    intro k l L hd hb hl h0 hL
    obtain ⟨b1, b2⟩ := hb b List.mem_cons_self
    have hg : P.getD k 0 = b := by
      rw [List.getD_eq_getElem?_getD]
      have := List.getElem?_drop (xs := P) (i := k) (j := 0)
      rw [hd, Nat.add_zero] at this
      rw [← this]
      rfl
    have hd2 : P.drop (k + 1) = Q := by
      rw [← List.drop_drop, hd]
      rfl
    obtain ⟨a1, a2, a3, a4, a5⟩ := kdo_is b1 b2 10 l L hl h0 hL
    obtain ⟨c1, c2, c3, c4, c5⟩ := ih (k + 1) (kdo b 10 l L).1 (kdo b 10 l L).2 hd2 (fun x hx => hb x (List.mem_cons_of_mem _ hx)) a2 a3 a4
    rw [List.length_cons, d5M, hg, if_pos ⟨by omega, b2⟩, a1, kd5]
    refine ⟨c1, c2, c3, c4, ?_⟩
    rcases c5 with h9 | h9
    · rw [h9]; exact a5
    · rcases a5 with h8 | h8
      · exact Or.inr (by have e := congrArg bl h8; omega)
      · exact Or.inr (by omega)
noncomputable def ptT : List (Nat × Nat × List Nat) := [(6, 1, [2, 3]), (127, 3, [11, 13]), (279, 4, [25, 31]), (443, 4, [19, 25]), (465, 4, [19, 31]), (1137, 5, [55, 59]), (1207, 5, [41, 47]), (1219, 5, [55, 61]), (1395, 5, [47, 37]), (1453, 5, [41, 37]), (1503, 5, [59, 61]), (1547, 5, [37, 55]), (1561, 5, [47, 59]), (1653, 5, [41, 61]), (1667, 5, [41, 59]), (1787, 5, [47, 61]), (1897, 5, [37, 61]), (1903, 5, [41, 55]), (1975, 5, [37, 59]), (2013, 5, [47, 55])]
noncomputable def lkT (g d : Nat) : List (Nat × Nat × List Nat) → List Nat
  | [] => []
  | e :: T => if e.1 = g ∧ e.2.1 = d then e.2.2 else lkT g d T
theorem lkT_is {g d : Nat} : ∀ T, lkT g d T = [] ∨ ∃ e, e ∈ T ∧ e.1 = g ∧ e.2.1 = d ∧ lkT g d T = e.2.2 := by
  intro T
  induction T with
  | nil => exact Or.inl rfl
  | cons e T ih =>
    rw [lkT]
    by_cases h : e.1 = g ∧ e.2.1 = d
    · rw [if_pos h]; exact Or.inr ⟨e, List.mem_cons_self, h.1, h.2, rfl⟩
    · rw [if_neg h]
      rcases ih with h1 | ⟨e2, h1, h2⟩
      · exact Or.inl h1
      · exact Or.inr ⟨e2, List.mem_cons_of_mem _ h1, h2⟩
noncomputable def kpt (g d : Nat) : List Nat := Bool.rec (lkT g d ptT) [g] (Nat.beq (Nat.log2 g) d)
/-! least divisors: what is its own least divisor has no other; so the parts by traces of it are it alone -/
theorem ls_le {g : Nat} : ∀ n q, q ≤ n → 2 ≤ q → rst g q = 0 → ∃ r, 2 ≤ r ∧ r ≤ q ∧ rst g r = 0 ∧ ∀ s, 2 ≤ s → s < r → rst g s ≠ 0 := by
  intro n
  induction n with
  | zero => intro q h h2 _; omega
  | succ n ih =>
    intro q h h2 hr
    by_cases hx : ∃ s, 2 ≤ s ∧ s < q ∧ rst g s = 0
    · obtain ⟨s, s2, s3, s4⟩ := hx
      obtain ⟨r, r1, r2, r3, r4⟩ := ih s (by omega) s2 s4
      exact ⟨r, r1, by omega, r3, r4⟩
    · exact ⟨q, h2, Nat.le_refl _, hr, fun s s2 s3 s4 => hx ⟨s, s2, s3, s4⟩⟩
theorem lp_sm {g q : Nat} (h2 : 2 ≤ g) (hg : g < 2048) (hp : lpT g = g) (q2 : 2 ≤ q) (hb : 2 * bl q ≤ bl g + 1) (hr : rst g q = 0) : False := by
  obtain ⟨r, r1, r2, r3, r4⟩ := ls_le q q (Nat.le_refl _) q2 hr
  have b1 := bl_mono r2
  have h11 : bl g ≤ 11 := bl_le.mpr (by omega)
  have bg : 2 ≤ bl g := bl_gt.mpr (by omega)
  have r6 : r < 2 ^ 6 := bl_le.mp (show bl r ≤ 6 by omega)
  have e2 := ls_find (l := g) (t := r) (by omega) (by omega) r3 200 2 r1 (Nat.le_refl _) (by omega) (fun s s2 s3 => r4 s s2 s3)
  obtain ⟨e, _⟩ := lp_is h2 hg
  rw [e, hp] at e2
  have e3 : bl g = bl r := congrArg bl (Option.some.inj e2)
  omega
theorem lp_ir {g c : Nat} (h2 : 2 ≤ g) (hg : g < 2048) (hp : lpT g = g) (c2 : 2 ≤ c) (hc : c < 2048) (hr : rst g c = 0) : c = g := by
  obtain ⟨q0, q1, q2, q3⟩ := quo_lt hg (by omega) c2 hc hr
  have h11 : bl g ≤ 11 := bl_le.mpr (by omega)
  have bc : 2 ≤ bl c := bl_gt.mpr (by omega)
  have e := dv_q (by omega) (by omega) (by omega) hr
  by_cases h1 : quo g c = 1
  · rw [h1, cl_1] at e; exact e.symm
  · exfalso
    rcases Nat.lt_or_ge (bl g + 1) (2 * bl c) with h9 | h9
    · have e2 : cl (quo g c) c = g := by rw [cl_comm (a := quo g c) (b := c) (by omega) (by omega)]; exact e.symm
      have h := (q_dv (b := quo g c) (q := c) q0 (by omega) (by omega) (by rw [e2]; omega)).1
      rw [e2] at h
      exact lp_sm h2 hg hp (q := quo g c) (by omega) (by omega) h
    · exact lp_sm h2 hg hp c2 (by omega) hr
theorem dw_bd {d q x : Nat} (hq : q < 2 ^ 64) (hx : bl x ≤ 11) (h : cl d q = x) : ∃ q, bl q ≤ 11 ∧ cl d q = x := by
  by_cases hd : d = 0
  · subst hd
    exact ⟨0, by rw [bl_0]; omega, by rw [← h, cl_0l, cl_0l]⟩
  by_cases h0 : q = 0
  · subst h0
    exact ⟨0, by rw [bl_0]; omega, h⟩
  have e := cl_bl hd h0 hq
  have p := bl_pos hd
  rw [h] at e
  exact ⟨q, by omega, h⟩
theorem eu_dw : ∀ n a b, bl b < n → bl a ≤ 11 → bl b ≤ 11 → (∃ q, bl q ≤ 11 ∧ cl (eu n a b) q = a) ∧ (∃ q, bl q ≤ 11 ∧ cl (eu n a b) q = b) := by
  intro n
  induction n with
  | zero => intro a b h; exact absurd h (Nat.not_lt_zero _)
  | succ n ih =>
    intro a b h ha hb
    by_cases h0 : b = 0
    · subst h0
      rw [eu, if_pos rfl]
      exact ⟨⟨1, by decide +kernel, cl_1 a⟩, ⟨0, by decide +kernel, cl_0r a⟩⟩
    · rw [eu, if_neg h0]
      have la : a < 2 ^ 11 := bl_le.mp ha
      have lb : b < 2 ^ 11 := bl_le.mp hb
      obtain ⟨d1, d2, d3⟩ := dm_spec (f := a) h0 (by omega) (by omega)
      have hp := bl_pos h0
      have br : bl (rst a b) ≤ bl b - 1 := bl_le.mpr d2
      have bq : bl (quo a b) ≤ bl a + 1 - bl b := bl_le.mpr d3
      obtain ⟨⟨q1, b1, e1⟩, ⟨q2, b2, e2⟩⟩ := ih b (rst a b) (by omega) (by omega) (by omega)
      refine ⟨?_, ⟨q1, b1, e1⟩⟩
      have l1 : q1 < 2 ^ 11 := bl_le.mp b1
      have l2 : q2 < 2 ^ 11 := bl_le.mp b2
      have lq : quo a b < 2 ^ 12 := bl_le.mp (by omega)
      have c := cl_ble q1 (b := quo a b) (by omega)
      have bx : bl (cl q1 (quo a b) ^^^ q2) ≤ 30 := bl_xor (by omega) (by omega)
      have lx : cl q1 (quo a b) ^^^ q2 < 2 ^ 30 := bl_le.mp bx
      refine dw_bd (q := cl q1 (quo a b) ^^^ q2) (by omega) ha ?_
      rw [cl_xr, ← cl_assoc (by omega) (by omega) (by omega), e1, e2, d1]
theorem co_ir {g t : Nat} (h2 : 2 ≤ g) (hg : g < 2048) (hp : lpT g = g) (ht : t < 2048) : co g t = 1 ∨ co g t = g := by
  have bg : bl g ≤ 11 := bl_le.mpr (by omega)
  have bt : bl t ≤ 11 := bl_le.mpr (by omega)
  obtain ⟨⟨q, bq, e⟩, _⟩ := eu_dw 64 g t (by omega) bg bt
  have e : cl (co g t) q = g := e
  generalize co g t = c at e ⊢
  have c0 : c ≠ 0 := fun h => by rw [h, cl_0l] at e; omega
  have q0 : q ≠ 0 := fun h => by rw [h, cl_0r] at e; omega
  have lq : q < 2 ^ 11 := bl_le.mp bq
  have eb := cl_bl c0 q0 (by omega)
  have p := bl_pos q0
  rw [e] at eb
  have lc : c < 2 ^ 11 := bl_le.mp (by omega)
  by_cases h1 : c = 1
  · exact Or.inl h1
  · refine Or.inr (lp_ir h2 hg hp (by omega) (by omega) ?_)
    have h := (q_dv (b := c) (q := q) c0 (by omega) (by omega) (by rw [e]; omega)).1
    rw [e] at h
    exact h
theorem rst_lt2 {f b : Nat} (hb : b ≠ 0) (h : b < 2048) (hf : f < 2 ^ 62) : rst f b < 1024 := by
  have r := (rst_bl (f := f) hb hf (by omega)).1
  have hb11 : bl b ≤ 11 := bl_le.mpr (by omega)
  exact bl_le.mp (show bl (rst f b) ≤ 10 by omega)
theorem tcM_lt {b : Nat} (hb : b ≠ 0) (h : b < 2048) : ∀ u q s, q < 1024 → s < 1024 → tcM b u q s < 1024 := by
  intro u
  induction u with
  | zero => intro q s _ hs; exact hs
  | succ u ih =>
    intro q s hq hs
    rw [tcM]
    have h1 := pm_lt (i := 9) (a := q) (by omega) 11 q
    have h2 := rst_lt2 (f := sqM q) hb h (Nat.lt_of_lt_of_le h1 (Nat.pow_le_pow_right (by decide) (by decide)))
    exact ih _ _ h2 (Nat.xor_lt_two_pow (n := 10) hs h2)
theorem ptI_1 {g d j : Nat} (h2 : 2 ≤ g) (hg : g < 2048) (hp : lpT g = g) (hj : j ≤ 20) : ptI d j 1 (19 + 1) 0 [g] = some [g] := by
  have e : ptI d j 1 (18 + 1) (0 + 1) [g] = some [g] := by rw [ptI, if_pos (Nat.le_refl _)]
  have hd : [g].getD 0 0 = g := rfl
  have hp2 := Nat.pow_lt_pow_right (show 1 < 2 by decide) (show j < 30 by omega)
  have r := rst_lt2 (f := 2 ^ j) (b := g) (by omega) hg (by omega)
  have ht := tcM_lt (b := g) (by omega) hg (d - 1) (rst (2 ^ j) g) (rst (2 ^ j) g) r r
  rw [ptI, if_neg (by decide), if_pos ⟨(by show 0 < 1; decide), (by show 1 < 12; decide), (by rw [hd]; omega), (by rw [hd]; exact hg)⟩, hd, if_pos (by omega)]
  rcases co_ir h2 hg hp (t := tcM g (d - 1) (rst (2 ^ j) g) (rst (2 ^ j) g)) (by omega) with h | h
  · rw [if_pos h]; exact e
  · by_cases h1 : co g (tcM g (d - 1) (rst (2 ^ j) g) (rst (2 ^ j) g)) = 1
    · rw [if_pos h1]; exact e
    · rw [if_neg h1, if_pos h]; exact e
theorem ptO_1 {g d : Nat} (h2 : 2 ≤ g) (hg : g < 2048) (hp : lpT g = g) (hd : d ≤ 20) : ∀ F j, j ≤ d → d - j < F → ptO d d F j [g] = some [g] := by
  intro F
  induction F with
  | zero => intro j h h9; omega
  | succ F ih =>
    intro j hj hF
    rw [ptO]
    by_cases h : d ≤ j
    · rw [if_pos h]
    · have e : ptI d j [g].length 20 0 [g] = some [g] := ptI_1 h2 hg hp (by omega)
      rw [if_neg h, if_pos (show [g].length ≤ 12 by show 1 ≤ 12; decide), e]
      exact ih (j + 1) (by omega) (by omega)
theorem pt_1 {g d : Nat} (h2 : 2 ≤ g) (hg : g < 2048) (hp : lpT g = g) (hd : Nat.log2 g = d) : ptM g d = some [g] := by
  have hb := bl_log (a := g) (by omega)
  have h11 : bl g ≤ 11 := bl_le.mpr (by omega)
  unfold ptM
  rw [if_pos (by omega), show bl g - 1 = d by omega]
  exact ptO_1 h2 hg hp (by omega) 13 0 (by omega) (by omega)
set_option maxRecDepth 100000 in
theorem pt_two : ∀ e, e ∈ ptT → ptM e.1 e.2.1 = some e.2.2 ∧ e.2.2.length ≤ 12 ∧ (∀ b, b ∈ e.2.2 → 2 ≤ b ∧ b < 2048) := by decide +kernel
theorem kpt_is {g d : Nat} (h2 : 2 ≤ g) (hg : g < 2048) (hp : Nat.log2 g = d → lpT g = g) (hn : kpt g d ≠ []) : ptM g d = some (kpt g d) ∧ (kpt g d).length ≤ 12 ∧ (∀ b, b ∈ kpt g d → 2 ≤ b ∧ b < 2048) := by
  unfold kpt at hn ⊢
  cases hd : Nat.beq (Nat.log2 g) d with
  | true =>
    have e := Nat.eq_of_beq_eq_true hd
    have e9 := pt_1 h2 hg (hp e) e
    refine ⟨e9, by show 1 ≤ 12; decide, fun b hb => ?_⟩
    have : b = g := List.mem_singleton.mp hb
    rw [this]
    exact ⟨h2, hg⟩
  | false =>
    rw [hd] at hn
    have hn : lkT g d ptT ≠ [] := hn
    rcases lkT_is (g := g) (d := d) ptT with h1 | ⟨e, h1, h3, h4, h5⟩
    · exact absurd h1 hn
    · obtain ⟨a1, a2, a3⟩ := pt_two e h1
      show ptM g d = some (lkT g d ptT) ∧ (lkT g d ptT).length ≤ 12 ∧ (∀ b, b ∈ lkT g d ptT → 2 ≤ b ∧ b < 2048)
      rw [h5, ← h3, ← h4]
      exact ⟨a1, a2, a3⟩
noncomputable def kfc (F l : Nat) : List Nat := Nat.rec (motive := fun _ => Nat → List Nat) (fun _ => []) (fun _ ih l => Bool.rec (lpT l :: ih (kquo l (lpT l))) [] (Nat.ble l 1)) F l
theorem kfc_is : ∀ F l, l < 2048 → kfc F l = fcF F l := by
  intro F
  induction F with
  | zero => intro l _; rfl
  | succ F ih =>
    intro l hl
    show (Bool.rec (lpT l :: kfc F (kquo l (lpT l))) [] (Nat.ble l 1) : List Nat) = _
    rw [fcF]
    by_cases h : l < 2
    · rw [if_pos h, Nat.ble_eq_true_of_le (show l ≤ 1 by omega)]
    · obtain ⟨p1, p2, p3⟩ := lp_dv (l := l) (by omega) hl
      obtain ⟨_, _, q2, _⟩ := quo_lt hl (by omega) p1 p2 p3
      have hb : Nat.ble l 1 = false := by
        cases hc : Nat.ble l 1 with
        | false => rfl
        | true => have := Nat.le_of_ble_eq_true hc; omega
      rw [if_neg h, hb]
      show lpT l :: kfc F (kquo l (lpT l)) = _
      rw [kquo_is (by omega) (by omega), ih _ q2]
noncomputable def ckM (l : Nat) : Nat := Nat.log2 (lpT l)
noncomputable def ckR (l : Nat) : Nat × List Nat := kd5 (kpt (kg l (ckM l)) (ckM l)) l []
noncomputable def ck (l : Nat) : Bool :=
  kall (fun d => Bool.rec (Nat.beq (kg l d) 1) true (Nat.beq d 0)) (ckM l) && (Nat.ble (kg l (ckM l)) 2047 && (Nat.ble 2 (kg l (ckM l)) && ((Bool.rec true (Nat.beq (lpT (kg l (ckM l))) (kg l (ckM l))) (Nat.beq (Nat.log2 (kg l (ckM l))) (ckM l))) && ((kpt (kg l (ckM l)) (ckM l)).isEmpty == false && ((Bool.rec (Nat.ble (ckM l + 1) (ckM (ckR l).1)) true (Nat.beq (ckR l).1 1)) && (List.isPerm ((ckR l).2 ++ kfc 12 (ckR l).1) (kfc 12 l) && Nat.ble (lpT l) (Bool.rec (lpT (kquo l (lpT l))) (lpT l) (Nat.beq (kquo l (lpT l)) 1))))))))
set_option maxRecDepth 100000 in
theorem ck_tab : kall (fun i => ck (Nat.add i 2)) 2046 = true := by decide +kernel
theorem ck_is {l : Nat} (h2 : 2 ≤ l) (h : l < 2048) : ck l = true := by
  have e := kall_is 2046 ck_tab (l - 2) (by omega)
  have ea : Nat.add (l - 2) 2 = l := by show l - 2 + 2 = l; omega
  rw [ea] at e
  exact e
theorem pt_11 {d : Nat} (h : 1 ≤ d) : ptM 1 d = some [] := by
  unfold ptM
  rw [if_neg (by rw [show bl 1 = 1 by decide +kernel]; omega)]
theorem dg_fct : ∀ k l, bl l ≤ k → l < 2048 → l ≠ 0 → ∀ j d L, d + j = 11 → 1 ≤ d → (l = 1 ∨ d ≤ ckM l) → L.length + bl l ≤ 12 → ∃ B, dgM (11 - d) d l L = some (L ++ B) ∧ B.Perm (fct l) := by
  intro k
  induction k with
  | zero => intro l h1 _ h0; exact absurd (bl_eq0.mp (by omega)) h0
  | succ k ihk =>
    intro l h1 hl h0
    by_cases h : l < 2
    · have : l = 1 := by omega
      subst this
      intro j d L hd h1d _ hL
      refine ⟨[], ?_, by rw [fct_1]⟩
      rw [List.append_nil]
      cases hj : 11 - d with
      | zero => rw [dgM]
      | succ u => rw [dgM, if_pos hl, if_pos (by decide +kernel)]
    · have hb : 2 ≤ bl l := bl_gt.mpr (by omega)
      have h11 : bl l ≤ 11 := bl_le.mpr (by omega)
      obtain ⟨p1, p2, p3⟩ := lp_dv (l := l) (by omega) hl
      have hp11 : bl (lpT l) ≤ 11 := bl_le.mpr (by omega)
      have hpl := bl_log (a := lpT l) (by omega)
      have hck := ck_is (l := l) (by omega) hl
      unfold ck at hck
      rw [Bool.and_eq_true, Bool.and_eq_true, Bool.and_eq_true, Bool.and_eq_true, Bool.and_eq_true, Bool.and_eq_true, Bool.and_eq_true] at hck
      obtain ⟨k1, k2, k3, k4, k5, k6, k7, _⟩ := hck
      have hm : ckM l = bl (lpT l) - 1 := by unfold ckM; omega
      intro j
      induction j with
      | zero =>
        intro d L hd _ hdm _
        exfalso
        rcases hdm with h9 | h9
        · omega
        · omega
      | succ j ihj =>
        intro d L hd h1d hdm hL
        have hdm : d ≤ ckM l := by
          rcases hdm with h9 | h9
          · omega
          · exact h9
        rw [show 11 - d = (11 - (d + 1)) + 1 by omega, dgM, if_pos hl, if_neg (by omega), ← kg_is h0 hl]
        rcases Nat.lt_or_ge d (ckM l) with hlt | hge
        · have e := kall_is _ k1 d hlt
          have hd0 : Nat.beq d 0 = false := by
            cases hc : Nat.beq d 0 with
            | false => rfl
            | true => have := Nat.eq_of_beq_eq_true hc; omega
          rw [hd0] at e
          have e : kg l d = 1 := Nat.eq_of_beq_eq_true e
          rw [e, if_pos (by decide), pt_11 h1d]
          show ∃ B, (if ([] : List Nat).length ≤ 12 then match d5M [] ([] : List Nat).length 0 l L with | none => none | some R => dgM (11 - (d + 1)) (d + 1) R.1 R.2 else none) = some (L ++ B) ∧ B.Perm (fct l)
          rw [if_pos (by decide)]
          exact ihj (d + 1) L (by omega) (by omega) (Or.inr (by omega)) hL
        · have hdeq : d = ckM l := by omega
          have hg2 := Nat.le_of_ble_eq_true k2
          have hg3 := Nat.le_of_ble_eq_true k3
          have hne : kpt (kg l (ckM l)) (ckM l) ≠ [] := fun h9 => by rw [h9] at k5; cases k5
          have hpp : Nat.log2 (kg l (ckM l)) = ckM l → lpT (kg l (ckM l)) = kg l (ckM l) := fun h9 => by
            rw [h9] at k4
            have eb : Nat.beq (ckM l) (ckM l) = true := Nat.beq_refl _
            rw [eb] at k4
            exact Nat.eq_of_beq_eq_true k4
          obtain ⟨t1, t2, t3⟩ := kpt_is hg3 (by omega) hpp hne
          obtain ⟨s1, s2, s3, s4, s5⟩ := kd5_is (kpt (kg l (ckM l)) (ckM l)) (kpt (kg l (ckM l)) (ckM l)) 0 l L rfl t3 hl h0 hL
          have happ := kd5_app L (kpt (kg l (ckM l)) (ckM l)) l []
          rw [List.append_nil] at happ
          have happ : kd5 (kpt (kg l (ckM l)) (ckM l)) l L = ((ckR l).1, L ++ (ckR l).2) := happ
          rw [hdeq, if_pos (by omega), t1]
          show ∃ B, (if (kpt (kg l (ckM l)) (ckM l)).length ≤ 12 then match d5M (kpt (kg l (ckM l)) (ckM l)) (kpt (kg l (ckM l)) (ckM l)).length 0 l L with | none => none | some R => dgM (11 - (ckM l + 1)) (ckM l + 1) R.1 R.2 else none) = some (L ++ B) ∧ B.Perm (fct l)
          rw [if_pos t2, s1]
          show ∃ B, dgM (11 - (ckM l + 1)) (ckM l + 1) (kd5 (kpt (kg l (ckM l)) (ckM l)) l L).1 (kd5 (kpt (kg l (ckM l)) (ckM l)) l L).2 = some (L ++ B) ∧ B.Perm (fct l)
          rw [happ] at s2 s3 s4 s5 ⊢
          have s2 : (ckR l).1 < 2048 := s2
          have s3 : (ckR l).1 ≠ 0 := s3
          have s4 : (L ++ (ckR l).2).length + bl (ckR l).1 ≤ 12 := s4
          have s5 : (ckR l).1 = l ∨ bl (ckR l).1 < bl l := s5
          have hnext : (ckR l).1 = 1 ∨ ckM l + 1 ≤ ckM (ckR l).1 := by
            cases hc : Nat.beq (ckR l).1 1 with
            | true => exact Or.inl (Nat.eq_of_beq_eq_true hc)
            | false =>
              rw [hc] at k6
              exact Or.inr (Nat.le_of_ble_eq_true k6)
          have hless : bl (ckR l).1 < bl l := by
            rcases s5 with h9 | h9
            · exfalso
              rcases hnext with h8 | h8
              · omega
              · rw [h9] at h8; omega
            · exact h9
          have hm10 : ckM l ≤ 10 := by omega
          obtain ⟨B, b1, b2⟩ := ihk (ckR l).1 (by omega) s2 s3 (11 - (ckM l + 1)) (ckM l + 1) (L ++ (ckR l).2) (by omega) (by omega) hnext s4
          refine ⟨(ckR l).2 ++ B, ?_, ?_⟩
          · show dgM (11 - (ckM l + 1)) (ckM l + 1) (ckR l).1 (L ++ (ckR l).2) = _
            rw [b1, List.append_assoc]
          · have p := List.isPerm_iff.mp k7
            rw [kfc_is 12 _ s2, kfc_is 12 l hl] at p
            exact (List.Perm.append_left _ b2).trans p
theorem fct_asc : ∀ k l, bl l ≤ k → l < 2048 → l ≠ 0 → ∀ i, i < (fct l).length → 2 ≤ (fct l).getD i 0 ∧ (fct l).getD i 0 < 2048 ∧ lpT l ≤ (fct l).getD i 0 ∧ (0 < i → (fct l).getD (i - 1) 0 ≤ (fct l).getD i 0) := by
  intro k
  induction k with
  | zero => intro l h1 _ h0; exact absurd (bl_eq0.mp (by omega)) h0
  | succ k ih =>
    intro l h1 hl h0 i hi
    by_cases h : l < 2
    · have : l = 1 := by omega
      subst this
      rw [fct_1] at hi
      exact absurd hi (Nat.not_lt_zero _)
    · obtain ⟨p1, p2, p3⟩ := lp_dv (l := l) (by omega) hl
      obtain ⟨q0, q1, q2, _⟩ := quo_lt hl h0 p1 p2 p3
      have hck := ck_is (l := l) (by omega) hl
      unfold ck at hck
      rw [Bool.and_eq_true, Bool.and_eq_true, Bool.and_eq_true, Bool.and_eq_true, Bool.and_eq_true, Bool.and_eq_true, Bool.and_eq_true] at hck
      obtain ⟨_, _, _, _, _, _, _, k8⟩ := hck
      have k8 := Nat.le_of_ble_eq_true k8
      rw [kquo_is (by omega) h0] at k8
      rw [fct_s (by omega) hl] at hi ⊢
      cases i with
      | zero => exact ⟨p1, p2, Nat.le_refl _, fun h => by omega⟩
      | succ i =>
        rw [List.length_cons] at hi
        obtain ⟨a1, a2, a3, a4⟩ := ih (quo l (lpT l)) (by omega) q2 q0 i (by omega)
        have hq1 : quo l (lpT l) ≠ 1 := fun h9 => by rw [h9, fct_1] at hi; exact absurd hi (by show ¬ i + 1 < 0 + 1; omega)
        have hb : Nat.beq (quo l (lpT l)) 1 = false := by
          cases hc : Nat.beq (quo l (lpT l)) 1 with
          | false => rfl
          | true => exact absurd (Nat.eq_of_beq_eq_true hc) hq1
        rw [hb] at k8
        have k8 : lpT l ≤ lpT (quo l (lpT l)) := k8
        refine ⟨a1, a2, ?_, fun _ => ?_⟩
        · show lpT l ≤ (fct (quo l (lpT l))).getD i 0
          omega
        · cases i with
          | zero =>
            show lpT l ≤ (fct (quo l (lpT l))).getD 0 0
            omega
          | succ i => exact a4 (by omega)
theorem fac_is {n : Nat} (h2 : 2 ≤ n) (h : n < 2048) : ∃ B C : List Nat, trM 120 n 2 [] = some C ∧ dgM 10 1 n [] = some B ∧ l9M 13 n [] = some C ∧ B.Perm C ∧ C.length ≤ 11 ∧ 1 ≤ C.length ∧ C = fct n ∧ ∀ i, i < C.length → 2 ≤ C.getD i 0 ∧ C.getD i 0 < 2048 ∧ (0 < i → C.getD (i - 1) 0 ≤ C.getD i 0) := by
  have h11 : bl n ≤ 11 := bl_le.mpr (by omega)
  obtain ⟨p1, p2, p3⟩ := lp_dv h2 h
  have hpb : 2 ≤ bl (lpT n) := bl_gt.mpr (by omega)
  have hpl := bl_log (a := lpT n) (by omega)
  have hm : 1 ≤ ckM n := by unfold ckM; omega
  have t := tr_fct 120 n 2 [] h (by omega) (by decide) (by decide) (fun s h3 h4 => by omega) (show ([] : List Nat).length + bl n ≤ 12 by show 0 + bl n ≤ 12; omega) (by omega)
  have l9 := l9_fct 11 n 13 [] h11 h (by omega) (by omega) (show ([] : List Nat).length + bl n ≤ 12 by show 0 + bl n ≤ 12; omega)
  obtain ⟨B, d1, d2⟩ := dg_fct 11 n h11 h (by omega) 10 1 [] (by decide) (by decide) (Or.inr hm) (show ([] : List Nat).length + bl n ≤ 12 by show 0 + bl n ≤ 12; omega)
  have hl := fct_len 11 n h11 h (by omega)
  refine ⟨B, fct n, t, d1, l9, d2, by omega, ?_, rfl, fun i hi => ?_⟩
  · rw [fct_s h2 h, List.length_cons]; omega
  · have a := fct_asc 11 n h11 h (by omega) i hi
    exact ⟨a.1, a.2.1, a.2.2.2⟩
/-! primes by trying, by rising -/
theorem ptr_t {n : Nat} : ∀ u t, (ptr n u t = true ∧ ∀ s, t ≤ s → s < t + u → rst n s ≠ 0) ∨ (ptr n u t = false ∧ ∃ s, t ≤ s ∧ s < t + u ∧ rst n s = 0 ∧ ∀ r, t ≤ r → r < s → rst n r ≠ 0) := by
  intro u
  induction u with
  | zero => intro t; exact Or.inl ⟨rfl, fun s h1 h2 => by omega⟩
  | succ u ih =>
    intro t
    rw [ptr]
    by_cases h : rst n t = 0
    · rw [if_pos h]
      exact Or.inr ⟨rfl, t, Nat.le_refl _, by omega, h, fun r h1 h2 => by omega⟩
    · rw [if_neg h]
      rcases ih (t + 1) with ⟨a, b⟩ | ⟨a, s, b, c, d, e⟩
      · refine Or.inl ⟨a, fun s h1 h2 => ?_⟩
        rcases Nat.lt_or_ge t s with h3 | h3
        · exact b s (by omega) (by omega)
        · rw [show s = t by omega]; exact h
      · refine Or.inr ⟨a, s, by omega, by omega, d, fun r h1 h2 => ?_⟩
        rcases Nat.lt_or_ge t r with h3 | h3
        · exact e r (by omega) h2
        · rw [show r = t by omega]; exact h
theorem prm_lp {n : Nat} (h2 : 2 ≤ n) (h : n < 2048) : prm n = Nat.beq (lpT n) n := by
  have h11 : bl n ≤ 11 := bl_le.mpr (by omega)
  have hb : 2 ≤ bl n := bl_gt.mpr (by omega)
  obtain ⟨p1, p2⟩ := pend_b h11
  obtain ⟨e, _⟩ := lp_is h2 h
  have pe : ∀ t, pend n ≤ t ↔ bl n + 1 < 2 * bl t := by
    intro t
    unfold pend
    rw [← bl_gt]
    omega
  rw [prm, decide_eq_true hb, Bool.true_and]
  rcases ptr_t (n := n) (pend n - 2) 2 with ⟨a, b⟩ | ⟨a, s, b, c, d, f⟩
  · have e2 := ls_pr (l := n) (t := pend n) (by omega) ((pe _).mp (Nat.le_refl _)) 200 2 p1 (Nat.le_refl _) (by omega) (fun r h1 h3 => b r h1 (by omega))
    rw [e] at e2
    rw [a, Option.some.inj e2]
    exact (Nat.beq_refl n).symm
  · have hs : ¬ bl n + 1 < 2 * bl s := fun h9 => by have := (pe s).mpr h9; omega
    have e2 := ls_find (l := n) (t := s) (by omega) (by omega) d 200 2 b (Nat.le_refl _) (by omega) f
    rw [e] at e2
    rw [a, Option.some.inj e2]
    cases hc : Nat.beq s n with
    | false => rfl
    | true =>
      have := Nat.eq_of_beq_eq_true hc
      subst this
      omega
noncomputable def pnM (q : Nat) : Bool := q == 2 || q == 3 || q == 5 || q == 7
noncomputable def riM (l : Nat) : Nat → Nat → Bool
  | 0, _ => true
  | u + 1, q => if (bl l - 1) % q = 0 then (if pnM q then (if co l (rsM l ((bl l - 1) / q) ^^^ 2) = 1 then riM l u (q + 1) else false) else riM l u (q + 1)) else riM l u (q + 1)
noncomputable def rzM (l : Nat) : Bool := if bl l < 2 then false else if rst (rsM l (bl l - 1) ^^^ 2) l = 0 then riM l (bl l - 2) 2 else false
noncomputable def kri (l m u q : Nat) : Bool := Nat.rec (motive := fun _ => Nat → Bool) (fun _ => true) (fun _ ih q => Bool.rec (ih (Nat.add q 1)) (Bool.rec (ih (Nat.add q 1)) (Bool.rec false (ih (Nat.add q 1)) (Nat.beq (kg l (Nat.div m q)) 1)) (pnM q)) (Nat.beq (Nat.mod m q) 0)) u q
theorem kri_is {l : Nat} (h0 : l ≠ 0) (hl : l < 2048) : ∀ u q, kri l (bl l - 1) u q = riM l u q := by
  intro u
  induction u with
  | zero => intro q; rfl
  | succ u ih =>
    intro q
    have e : kri l (bl l - 1) (u + 1) q = Bool.rec (kri l (bl l - 1) u (q + 1)) (Bool.rec (kri l (bl l - 1) u (q + 1)) (Bool.rec false (kri l (bl l - 1) u (q + 1)) (Nat.beq (kg l ((bl l - 1) / q)) 1)) (pnM q)) (Nat.beq ((bl l - 1) % q) 0) := rfl
    rw [e, riM, ih, kg_is h0 hl]
    cases hz : Nat.beq ((bl l - 1) % q) 0 with
    | false => rw [if_neg (fun h9 => by rw [h9] at hz; cases hz)]
    | true =>
      rw [if_pos (Nat.eq_of_beq_eq_true hz)]
      cases pnM q with
      | false => rfl
      | true =>
        rw [if_pos rfl]
        cases hc : Nat.beq (co l (rsM l ((bl l - 1) / q) ^^^ 2)) 1 with
        | false => rw [if_neg (fun h9 => by rw [h9] at hc; cases hc)]
        | true => rw [if_pos (Nat.eq_of_beq_eq_true hc)]
noncomputable def krz (l : Nat) : Bool := Bool.rec false (kri l (Nat.log2 l) (Nat.sub (Nat.log2 l) 1) 2) (Nat.beq (krst (Nat.xor (kr l (Nat.log2 l)) 2) l) 0)
theorem krz_is {l : Nat} (h2 : 2 ≤ l) (hl : l < 2048) : krz l = rzM l := by
  have hb : 2 ≤ bl l := bl_gt.mpr (by omega)
  have hlog := bl_log (a := l) (by omega)
  have e1 : Nat.log2 l = bl l - 1 := by omega
  have e2 : Nat.sub (bl l - 1) 1 = bl l - 2 := by show bl l - 1 - 1 = _; omega
  unfold krz rzM
  rw [e1, e2, if_neg (by omega), kr_is (by omega) hl, krst_is (by omega), kri_is (by omega) hl]
  show (Bool.rec false (riM l (bl l - 2) 2) (Nat.beq (rst (rsM l (bl l - 1) ^^^ 2) l) 0) : Bool) = _
  cases hc : Nat.beq (rst (rsM l (bl l - 1) ^^^ 2) l) 0 with
  | false => rw [if_neg (fun h9 => by rw [h9] at hc; cases hc)]
  | true => rw [if_pos (Nat.eq_of_beq_eq_true hc)]
set_option maxRecDepth 100000 in
theorem rz_tab : kall (fun i => Bool.rec (Bool.rec true false (krz (Nat.add i 2))) (krz (Nat.add i 2)) (Nat.beq (lpT (Nat.add i 2)) (Nat.add i 2))) 2046 = true := by decide +kernel
theorem ris_all {n : Nat} (h : n < 2048) : rzM n = prm n := by
  by_cases h2 : 2 ≤ n
  · have e := kall_is 2046 rz_tab (n - 2) (by omega)
    have ea : Nat.add (n - 2) 2 = n := by show n - 2 + 2 = n; omega
    rw [ea, ← prm_lp h2 h, krz_is h2 h] at e
    generalize rzM n = x at e ⊢
    generalize prm n = y at e ⊢
    cases x <;> cases y <;> first | rfl | cases e
  · rcases (show n = 0 ∨ n = 1 by omega) with h3 | h3 <;> subst h3 <;> decide +kernel
