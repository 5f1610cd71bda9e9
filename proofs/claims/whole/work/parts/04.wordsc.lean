set_option maxRecDepth 100000 in
theorem m668 : Cond.fieldLink RX6 16 (TX6 2).1 (TX6 2).2.1 (TX6 2).2.2.1 ∈ TB := TB_mem 668 (by rfl) (by rfl)
set_option maxRecDepth 100000 in
theorem m669 : Cond.fieldLink RX6 96 (TX6 3).1 (TX6 3).2.1 (TX6 3).2.2.1 ∈ TB := TB_mem 669 (by rfl) (by rfl)
set_option maxRecDepth 100000 in
theorem m670 : Cond.fieldLink RX6 19 (TX6 4).1 (TX6 4).2.1 (TX6 4).2.2.1 ∈ TB := TB_mem 670 (by rfl) (by rfl)
set_option maxRecDepth 100000 in
theorem m671 : Cond.fieldLink RX6 22 (TX6 5).1 (TX6 5).2.1 (TX6 5).2.2.1 ∈ TB := TB_mem 671 (by rfl) (by rfl)
set_option maxRecDepth 100000 in
theorem m672 : Cond.fieldLink RX6 25 (TX6 6).1 (TX6 6).2.1 (TX6 6).2.2.1 ∈ TB := TB_mem 672 (by rfl) (by rfl)
set_option maxRecDepth 100000 in
theorem m673 : Cond.fieldLink RX6 28 (TX6 7).1 (TX6 7).2.1 (TX6 7).2.2.1 ∈ TB := TB_mem 673 (by rfl) (by rfl)
set_option maxRecDepth 100000 in
theorem m674 : Cond.fieldLink RX6 31 (TX6 8).1 (TX6 8).2.1 (TX6 8).2.2.1 ∈ TB := TB_mem 674 (by rfl) (by rfl)
set_option maxRecDepth 100000 in
theorem m675 : Cond.fieldLink RX6 35 (TX6 9).1 (TX6 9).2.1 (TX6 9).2.2.1 ∈ TB := TB_mem 675 (by rfl) (by rfl)
set_option maxRecDepth 100000 in
theorem m676 : Cond.fieldLink RX6 120 (TX6 10).1 (TX6 10).2.1 (TX6 10).2.2.1 ∈ TB := TB_mem 676 (by rfl) (by rfl)
set_option maxRecDepth 100000 in
theorem m677 : Cond.fieldLink RX6 38 (TX6 11).1 (TX6 11).2.1 (TX6 11).2.2.1 ∈ TB := TB_mem 677 (by rfl) (by rfl)
set_option maxRecDepth 100000 in
theorem m678 : Cond.fieldLink RX6 41 (TX6 12).1 (TX6 12).2.1 (TX6 12).2.2.1 ∈ TB := TB_mem 678 (by rfl) (by rfl)
set_option maxRecDepth 100000 in
theorem m679 : Cond.fieldLink RX6 44 (TX6 13).1 (TX6 13).2.1 (TX6 13).2.2.1 ∈ TB := TB_mem 679 (by rfl) (by rfl)
set_option maxRecDepth 100000 in
theorem m680 : Cond.fieldLink RX6 47 (TX6 14).1 (TX6 14).2.1 (TX6 14).2.2.1 ∈ TB := TB_mem 680 (by rfl) (by rfl)
set_option maxRecDepth 100000 in
theorem m681 : Cond.fieldLink RX6 50 (TX6 15).1 (TX6 15).2.1 (TX6 15).2.2.1 ∈ TB := TB_mem 681 (by rfl) (by rfl)
set_option maxRecDepth 100000 in
theorem m682 : Cond.fieldLink RX6 258 (TX6 16).1 (TX6 16).2.1 (TX6 16).2.2.1 ∈ TB := TB_mem 682 (by rfl) (by rfl)
set_option maxRecDepth 100000 in
theorem m683 : Cond.fieldLink RX6 53 (TX6 17).1 (TX6 17).2.1 (TX6 17).2.2.1 ∈ TB := TB_mem 683 (by rfl) (by rfl)
set_option maxRecDepth 100000 in
theorem m684 : Cond.fieldLink RX6 56 (TX6 18).1 (TX6 18).2.1 (TX6 18).2.2.1 ∈ TB := TB_mem 684 (by rfl) (by rfl)
set_option maxRecDepth 100000 in
theorem m685 : Cond.fieldLink RX6 59 (TX6 19).1 (TX6 19).2.1 (TX6 19).2.2.1 ∈ TB := TB_mem 685 (by rfl) (by rfl)
set_option maxRecDepth 100000 in
theorem m686 : Cond.fieldLink RX6 62 (TX6 20).1 (TX6 20).2.1 (TX6 20).2.2.1 ∈ TB := TB_mem 686 (by rfl) (by rfl)
set_option maxRecDepth 100000 in
theorem m687 : Cond.fieldLink RX6 164 (TX6 21).1 (TX6 21).2.1 (TX6 21).2.2.1 ∈ TB := TB_mem 687 (by rfl) (by rfl)
set_option maxRecDepth 100000 in
theorem m688 : Cond.fieldLink RX6 174 (TX6 22).1 (TX6 22).2.1 (TX6 22).2.2.1 ∈ TB := TB_mem 688 (by rfl) (by rfl)
set_option maxRecDepth 100000 in
theorem m689 : Cond.fieldLink RX6 190 (TX6 23).1 (TX6 23).2.1 (TX6 23).2.2.1 ∈ TB := TB_mem 689 (by rfl) (by rfl)
set_option maxRecDepth 100000 in
theorem m690 : Cond.fieldLink RX6 167 (TX6 24).1 (TX6 24).2.1 (TX6 24).2.2.1 ∈ TB := TB_mem 690 (by rfl) (by rfl)
set_option maxRecDepth 100000 in
theorem m691 : Cond.fieldLink RX6 65 (TX6 25).1 (TX6 25).2.1 (TX6 25).2.2.1 ∈ TB := TB_mem 691 (by rfl) (by rfl)
set_option maxRecDepth 100000 in
theorem m692 : Cond.fieldLink RX6 69 (TX6 26).1 (TX6 26).2.1 (TX6 26).2.2.1 ∈ TB := TB_mem 692 (by rfl) (by rfl)
set_option maxRecDepth 100000 in
theorem m693 : Cond.fieldLink RX6 72 (TX6 27).1 (TX6 27).2.1 (TX6 27).2.2.1 ∈ TB := TB_mem 693 (by rfl) (by rfl)
set_option maxRecDepth 100000 in
theorem m694 : Cond.fieldLink RX6 75 (TX6 28).1 (TX6 28).2.1 (TX6 28).2.2.1 ∈ TB := TB_mem 694 (by rfl) (by rfl)
set_option maxRecDepth 100000 in
theorem m695 : Cond.fieldLink RX6 78 (TX6 29).1 (TX6 29).2.1 (TX6 29).2.2.1 ∈ TB := TB_mem 695 (by rfl) (by rfl)
set_option maxRecDepth 100000 in
theorem m696 : Cond.fieldLink RX6 81 (TX6 30).1 (TX6 30).2.1 (TX6 30).2.2.1 ∈ TB := TB_mem 696 (by rfl) (by rfl)
set_option maxRecDepth 100000 in
theorem m697 : Cond.fieldLink RX6 235 (TX6 31).1 (TX6 31).2.1 (TX6 31).2.2.1 ∈ TB := TB_mem 697 (by rfl) (by rfl)
set_option maxRecDepth 100000 in
theorem m698 : Cond.fieldLink RX6 226 (TX6 32).1 (TX6 32).2.1 (TX6 32).2.2.1 ∈ TB := TB_mem 698 (by rfl) (by rfl)
set_option maxRecDepth 100000 in
theorem m699 : Cond.fieldLink RX6 229 (TX6 33).1 (TX6 33).2.1 (TX6 33).2.2.1 ∈ TB := TB_mem 699 (by rfl) (by rfl)
set_option maxRecDepth 100000 in
theorem m700 : Cond.fieldLink RX6 232 (TX6 34).1 (TX6 34).2.1 (TX6 34).2.2.1 ∈ TB := TB_mem 700 (by rfl) (by rfl)
set_option maxRecDepth 100000 in
theorem m701 : Cond.fieldLink RX6 84 (TX6 35).1 (TX6 35).2.1 (TX6 35).2.2.1 ∈ TB := TB_mem 701 (by rfl) (by rfl)
set_option maxRecDepth 100000 in
theorem m775 : Cond.methodLink RL 17 yX6_row ∈ TB := TB_mem 775 (by rfl) (by rfl)
set_option maxRecDepth 100000 in
theorem m776 : Cond.instanceMethod yX6_row ∈ TB := TB_mem 776 (by rfl) (by rfl)
set_option maxRecDepth 100000 in
theorem m777 : Cond.selects RX6 yX6_row yX6_row ∈ TB := TB_mem 777 (by rfl) (by rfl)
set_option maxRecDepth 100000 in
theorem m778 : Cond.code yX6_row cX6_row 6 (some .int) ∈ TB := TB_mem 778 (by rfl) (by rfl)
set_option maxRecDepth 100000 in
theorem m779 : Cond.constantLong RX6 88 (3) ∈ TB := TB_mem 779 (by rfl) (by rfl)
set_option maxRecDepth 100000 in
theorem m780 : Cond.methodLink RX6 90 yX6_in ∈ TB := TB_mem 780 (by rfl) (by rfl)
set_option maxRecDepth 100000 in
theorem m781 : Cond.static yX6_in ∈ TB := TB_mem 781 (by rfl) (by rfl)
set_option maxRecDepth 100000 in
theorem m782 : Cond.code yX6_in cX6_in 6 (some .boolean) ∈ TB := TB_mem 782 (by rfl) (by rfl)
set_option maxRecDepth 100000 in
theorem m783 : Cond.methodLink RL 22 yX6_clear ∈ TB := TB_mem 783 (by rfl) (by rfl)
set_option maxRecDepth 100000 in
theorem m784 : Cond.instanceMethod yX6_clear ∈ TB := TB_mem 784 (by rfl) (by rfl)
set_option maxRecDepth 100000 in
theorem m785 : Cond.selects RX6 yX6_clear yX6_clear ∈ TB := TB_mem 785 (by rfl) (by rfl)
set_option maxRecDepth 100000 in
theorem m786 : Cond.code yX6_clear cX6_clear 3 (some .int) ∈ TB := TB_mem 786 (by rfl) (by rfl)
set_option maxRecDepth 100000 in
theorem m787 : Cond.methodLink RL 27 yX6_table ∈ TB := TB_mem 787 (by rfl) (by rfl)
set_option maxRecDepth 100000 in
theorem m788 : Cond.instanceMethod yX6_table ∈ TB := TB_mem 788 (by rfl) (by rfl)
set_option maxRecDepth 100000 in
theorem m789 : Cond.selects RX6 yX6_table yX6_table ∈ TB := TB_mem 789 (by rfl) (by rfl)
set_option maxRecDepth 100000 in
theorem m790 : Cond.code yX6_table cX6_table 3 (some .int) ∈ TB := TB_mem 790 (by rfl) (by rfl)
set_option maxRecDepth 100000 in
theorem m791 : Cond.constantLong RX6 94 (7) ∈ TB := TB_mem 791 (by rfl) (by rfl)
set_option maxRecDepth 100000 in
theorem m792 : Cond.methodLink RL 32 yX6_formula ∈ TB := TB_mem 792 (by rfl) (by rfl)
set_option maxRecDepth 100000 in
theorem m793 : Cond.instanceMethod yX6_formula ∈ TB := TB_mem 793 (by rfl) (by rfl)
set_option maxRecDepth 100000 in
theorem m794 : Cond.selects RX6 yX6_formula yX6_formula ∈ TB := TB_mem 794 (by rfl) (by rfl)
set_option maxRecDepth 100000 in
theorem m795 : Cond.code yX6_formula cX6_formula 4 (some .int) ∈ TB := TB_mem 795 (by rfl) (by rfl)
set_option maxRecDepth 100000 in
theorem m796 : Cond.constantLong RX6 110 (11) ∈ TB := TB_mem 796 (by rfl) (by rfl)
set_option maxRecDepth 100000 in
theorem m797 : Cond.constantLong RX6 112 (5) ∈ TB := TB_mem 797 (by rfl) (by rfl)
set_option maxRecDepth 100000 in
theorem m798 : Cond.methodLink RX6 99 yX6_hasOne ∈ TB := TB_mem 798 (by rfl) (by rfl)
set_option maxRecDepth 100000 in
theorem m799 : Cond.static yX6_hasOne ∈ TB := TB_mem 799 (by rfl) (by rfl)
set_option maxRecDepth 100000 in
theorem m800 : Cond.code yX6_hasOne cX6_hasOne 1 (some .boolean) ∈ TB := TB_mem 800 (by rfl) (by rfl)
set_option maxRecDepth 100000 in
theorem m801 : Cond.methodLink RX6 114 yX6_isFormula ∈ TB := TB_mem 801 (by rfl) (by rfl)
set_option maxRecDepth 100000 in
theorem m803 : Cond.instanceMethod yX6_isFormula ∈ TB := TB_mem 803 (by rfl) (by rfl)
set_option maxRecDepth 100000 in
theorem m804 : Cond.code yX6_isFormula cX6_isFormula 2 (some .boolean) ∈ TB := TB_mem 804 (by rfl) (by rfl)
set_option maxRecDepth 100000 in
theorem m805 : Cond.methodLink RX6 103 yX6_hasTwo ∈ TB := TB_mem 805 (by rfl) (by rfl)
set_option maxRecDepth 100000 in
theorem m806 : Cond.static yX6_hasTwo ∈ TB := TB_mem 806 (by rfl) (by rfl)
set_option maxRecDepth 100000 in
theorem m807 : Cond.code yX6_hasTwo cX6_hasTwo 1 (some .boolean) ∈ TB := TB_mem 807 (by rfl) (by rfl)
set_option maxRecDepth 100000 in
theorem m808 : Cond.methodLink RX6 106 yX6_sizeOf ∈ TB := TB_mem 808 (by rfl) (by rfl)
set_option maxRecDepth 100000 in
theorem m810 : Cond.instanceMethod yX6_sizeOf ∈ TB := TB_mem 810 (by rfl) (by rfl)
set_option maxRecDepth 100000 in
theorem m811 : Cond.code yX6_sizeOf cX6_sizeOf 4 (some .int) ∈ TB := TB_mem 811 (by rfl) (by rfl)
set_option maxRecDepth 100000 in
theorem m812 : Cond.methodLink RX6 117 yX6_tell ∈ TB := TB_mem 812 (by rfl) (by rfl)
set_option maxRecDepth 100000 in
theorem m814 : Cond.instanceMethod yX6_tell ∈ TB := TB_mem 814 (by rfl) (by rfl)
set_option maxRecDepth 100000 in
theorem m815 : Cond.code yX6_tell cX6_tell 5 (some .int) ∈ TB := TB_mem 815 (by rfl) (by rfl)
set_option maxRecDepth 100000 in
theorem m816 : Cond.methodLink RL 36 yX6_formulaOf ∈ TB := TB_mem 816 (by rfl) (by rfl)
set_option maxRecDepth 100000 in
theorem m817 : Cond.instanceMethod yX6_formulaOf ∈ TB := TB_mem 817 (by rfl) (by rfl)
set_option maxRecDepth 100000 in
theorem m818 : Cond.selects RX6 yX6_formulaOf yX6_formulaOf ∈ TB := TB_mem 818 (by rfl) (by rfl)
set_option maxRecDepth 100000 in
theorem m819 : Cond.code yX6_formulaOf cX6_formulaOf 3 (some .int) ∈ TB := TB_mem 819 (by rfl) (by rfl)
set_option maxRecDepth 100000 in
theorem m820 : Cond.methodLink RL 41 yX6_node ∈ TB := TB_mem 820 (by rfl) (by rfl)
set_option maxRecDepth 100000 in
theorem m821 : Cond.instanceMethod yX6_node ∈ TB := TB_mem 821 (by rfl) (by rfl)
set_option maxRecDepth 100000 in
theorem m822 : Cond.selects RX6 yX6_node yX6_node ∈ TB := TB_mem 822 (by rfl) (by rfl)
set_option maxRecDepth 100000 in
theorem m823 : Cond.code yX6_node cX6_node 7 (some .int) ∈ TB := TB_mem 823 (by rfl) (by rfl)
set_option maxRecDepth 100000 in
theorem m824 : Cond.constantLong RX6 146 (8) ∈ TB := TB_mem 824 (by rfl) (by rfl)
set_option maxRecDepth 100000 in
theorem m825 : Cond.methodLink RX6 148 yX6_isNode ∈ TB := TB_mem 825 (by rfl) (by rfl)
set_option maxRecDepth 100000 in
theorem m827 : Cond.instanceMethod yX6_isNode ∈ TB := TB_mem 827 (by rfl) (by rfl)
set_option maxRecDepth 100000 in
theorem m828 : Cond.code yX6_isNode cX6_isNode 2 (some .boolean) ∈ TB := TB_mem 828 (by rfl) (by rfl)
set_option maxRecDepth 100000 in
theorem m829 : Cond.methodLink RX6 129 yX6_isTwo ∈ TB := TB_mem 829 (by rfl) (by rfl)
set_option maxRecDepth 100000 in
theorem m830 : Cond.static yX6_isTwo ∈ TB := TB_mem 830 (by rfl) (by rfl)
set_option maxRecDepth 100000 in
theorem m831 : Cond.code yX6_isTwo cX6_isTwo 1 (some .boolean) ∈ TB := TB_mem 831 (by rfl) (by rfl)
set_option maxRecDepth 100000 in
theorem m832 : Cond.methodLink RX6 140 yX6_hasMember ∈ TB := TB_mem 832 (by rfl) (by rfl)
set_option maxRecDepth 100000 in
theorem m833 : Cond.static yX6_hasMember ∈ TB := TB_mem 833 (by rfl) (by rfl)
set_option maxRecDepth 100000 in
theorem m834 : Cond.code yX6_hasMember cX6_hasMember 1 (some .boolean) ∈ TB := TB_mem 834 (by rfl) (by rfl)
set_option maxRecDepth 100000 in
theorem m835 : Cond.methodLink RX6 151 yX6_isRight ∈ TB := TB_mem 835 (by rfl) (by rfl)
set_option maxRecDepth 100000 in
theorem m837 : Cond.instanceMethod yX6_isRight ∈ TB := TB_mem 837 (by rfl) (by rfl)
set_option maxRecDepth 100000 in
theorem m838 : Cond.code yX6_isRight cX6_isRight 4 (some .boolean) ∈ TB := TB_mem 838 (by rfl) (by rfl)
set_option maxRecDepth 100000 in
theorem m839 : Cond.constantLong RX6 125 (63) ∈ TB := TB_mem 839 (by rfl) (by rfl)
set_option maxRecDepth 100000 in
theorem m840 : Cond.constantLong RX6 127 (100) ∈ TB := TB_mem 840 (by rfl) (by rfl)
set_option maxRecDepth 100000 in
theorem m841 : Cond.methodLink RX6 155 yX6_lay ∈ TB := TB_mem 841 (by rfl) (by rfl)
set_option maxRecDepth 100000 in
theorem m843 : Cond.instanceMethod yX6_lay ∈ TB := TB_mem 843 (by rfl) (by rfl)
set_option maxRecDepth 100000 in
theorem m844 : Cond.code yX6_lay cX6_lay 7 (some .int) ∈ TB := TB_mem 844 (by rfl) (by rfl)
set_option maxRecDepth 100000 in
theorem m845 : Cond.methodLink RX6 136 yX6_put ∈ TB := TB_mem 845 (by rfl) (by rfl)
set_option maxRecDepth 100000 in
theorem m847 : Cond.instanceMethod yX6_put ∈ TB := TB_mem 847 (by rfl) (by rfl)
set_option maxRecDepth 100000 in
theorem m848 : Cond.code yX6_put cX6_put 7 none ∈ TB := TB_mem 848 (by rfl) (by rfl)
set_option maxRecDepth 100000 in
theorem m849 : Cond.methodLink RX6 143 yX6_hasNumber ∈ TB := TB_mem 849 (by rfl) (by rfl)
set_option maxRecDepth 100000 in
theorem m850 : Cond.static yX6_hasNumber ∈ TB := TB_mem 850 (by rfl) (by rfl)
set_option maxRecDepth 100000 in
theorem m851 : Cond.code yX6_hasNumber cX6_hasNumber 1 (some .boolean) ∈ TB := TB_mem 851 (by rfl) (by rfl)
set_option maxRecDepth 100000 in
theorem m852 : Cond.constantLong RX6 123 (4) ∈ TB := TB_mem 852 (by rfl) (by rfl)
set_option maxRecDepth 100000 in
theorem m853 : Cond.methodLink RX6 159 yX6_look ∈ TB := TB_mem 853 (by rfl) (by rfl)
set_option maxRecDepth 100000 in
theorem m855 : Cond.instanceMethod yX6_look ∈ TB := TB_mem 855 (by rfl) (by rfl)
set_option maxRecDepth 100000 in
theorem m856 : Cond.code yX6_look cX6_look 5 none ∈ TB := TB_mem 856 (by rfl) (by rfl)
set_option maxRecDepth 100000 in
theorem m857 : Cond.methodLink RX6 132 yX6_bound ∈ TB := TB_mem 857 (by rfl) (by rfl)
set_option maxRecDepth 100000 in
theorem m859 : Cond.instanceMethod yX6_bound ∈ TB := TB_mem 859 (by rfl) (by rfl)
set_option maxRecDepth 100000 in
theorem m860 : Cond.code yX6_bound cX6_bound 4 (some .int) ∈ TB := TB_mem 860 (by rfl) (by rfl)
set_option maxRecDepth 100000 in
theorem m861 : Cond.methodLink RL 45 yX6_told ∈ TB := TB_mem 861 (by rfl) (by rfl)
set_option maxRecDepth 100000 in
theorem m862 : Cond.instanceMethod yX6_told ∈ TB := TB_mem 862 (by rfl) (by rfl)
set_option maxRecDepth 100000 in
theorem m863 : Cond.selects RX6 yX6_told yX6_told ∈ TB := TB_mem 863 (by rfl) (by rfl)
set_option maxRecDepth 100000 in
theorem m864 : Cond.code yX6_told cX6_told 3 (some .int) ∈ TB := TB_mem 864 (by rfl) (by rfl)
set_option maxRecDepth 100000 in
theorem m865 : Cond.constantLong RX6 162 (6) ∈ TB := TB_mem 865 (by rfl) (by rfl)
set_option maxRecDepth 100000 in
theorem m866 : Cond.methodLink RL 49 yX6_run ∈ TB := TB_mem 866 (by rfl) (by rfl)
set_option maxRecDepth 100000 in
theorem m867 : Cond.instanceMethod yX6_run ∈ TB := TB_mem 867 (by rfl) (by rfl)
set_option maxRecDepth 100000 in
theorem m868 : Cond.selects RX6 yX6_run yX6_run ∈ TB := TB_mem 868 (by rfl) (by rfl)
set_option maxRecDepth 100000 in
theorem m869 : Cond.code yX6_run cX6_run 6 (some .int) ∈ TB := TB_mem 869 (by rfl) (by rfl)
set_option maxRecDepth 100000 in
theorem m870 : Cond.methodLink RX6 223 yX6_does ∈ TB := TB_mem 870 (by rfl) (by rfl)
set_option maxRecDepth 100000 in
theorem m872 : Cond.instanceMethod yX6_does ∈ TB := TB_mem 872 (by rfl) (by rfl)
set_option maxRecDepth 100000 in
theorem m873 : Cond.code yX6_does cX6_does 5 none ∈ TB := TB_mem 873 (by rfl) (by rfl)
set_option maxRecDepth 100000 in
theorem m874 : Cond.methodLink RX6 196 yX6_place ∈ TB := TB_mem 874 (by rfl) (by rfl)
set_option maxRecDepth 100000 in
theorem m875 : Cond.static yX6_place ∈ TB := TB_mem 875 (by rfl) (by rfl)
set_option maxRecDepth 100000 in
theorem m876 : Cond.code yX6_place cX6_place 2 (some .int) ∈ TB := TB_mem 876 (by rfl) (by rfl)
set_option maxRecDepth 100000 in
theorem m877 : Cond.methodLink RX6 203 yX6_takes ∈ TB := TB_mem 877 (by rfl) (by rfl)
set_option maxRecDepth 100000 in
theorem m879 : Cond.instanceMethod yX6_takes ∈ TB := TB_mem 879 (by rfl) (by rfl)
set_option maxRecDepth 100000 in
theorem m880 : Cond.code yX6_takes cX6_takes 5 none ∈ TB := TB_mem 880 (by rfl) (by rfl)
set_option maxRecDepth 100000 in
theorem m881 : Cond.methodLink RX6 210 yX6_work ∈ TB := TB_mem 881 (by rfl) (by rfl)
set_option maxRecDepth 100000 in
theorem m883 : Cond.instanceMethod yX6_work ∈ TB := TB_mem 883 (by rfl) (by rfl)
set_option maxRecDepth 100000 in
theorem m884 : Cond.code yX6_work cX6_work 3 none ∈ TB := TB_mem 884 (by rfl) (by rfl)
set_option maxRecDepth 100000 in
theorem m885 : Cond.methodLink RX6 170 yX6_begins ∈ TB := TB_mem 885 (by rfl) (by rfl)
set_option maxRecDepth 100000 in
theorem m887 : Cond.instanceMethod yX6_begins ∈ TB := TB_mem 887 (by rfl) (by rfl)
set_option maxRecDepth 100000 in
theorem m888 : Cond.code yX6_begins cX6_begins 2 none ∈ TB := TB_mem 888 (by rfl) (by rfl)
set_option maxRecDepth 100000 in
theorem m889 : Cond.methodLink RX6 193 yX6_goesOn ∈ TB := TB_mem 889 (by rfl) (by rfl)
set_option maxRecDepth 100000 in
theorem m891 : Cond.instanceMethod yX6_goesOn ∈ TB := TB_mem 891 (by rfl) (by rfl)
set_option maxRecDepth 100000 in
theorem m892 : Cond.code yX6_goesOn cX6_goesOn 5 none ∈ TB := TB_mem 892 (by rfl) (by rfl)
set_option maxRecDepth 100000 in
theorem m893 : Cond.methodLink RX6 177 yX6_gives ∈ TB := TB_mem 893 (by rfl) (by rfl)
set_option maxRecDepth 100000 in
theorem m895 : Cond.instanceMethod yX6_gives ∈ TB := TB_mem 895 (by rfl) (by rfl)
set_option maxRecDepth 100000 in
theorem m896 : Cond.code yX6_gives cX6_gives 2 none ∈ TB := TB_mem 896 (by rfl) (by rfl)
set_option maxRecDepth 100000 in
theorem m897 : Cond.methodLink RX6 180 yX6_asks ∈ TB := TB_mem 897 (by rfl) (by rfl)
set_option maxRecDepth 100000 in
theorem m899 : Cond.instanceMethod yX6_asks ∈ TB := TB_mem 899 (by rfl) (by rfl)
set_option maxRecDepth 100000 in
theorem m900 : Cond.code yX6_asks cX6_asks 2 none ∈ TB := TB_mem 900 (by rfl) (by rfl)
set_option maxRecDepth 100000 in
theorem m901 : Cond.methodLink RX6 183 yX6_single ∈ TB := TB_mem 901 (by rfl) (by rfl)
set_option maxRecDepth 100000 in
theorem m903 : Cond.instanceMethod yX6_single ∈ TB := TB_mem 903 (by rfl) (by rfl)
set_option maxRecDepth 100000 in
theorem m904 : Cond.code yX6_single cX6_single 2 none ∈ TB := TB_mem 904 (by rfl) (by rfl)
set_option maxRecDepth 100000 in
theorem m905 : Cond.methodLink RX6 186 yX6_both ∈ TB := TB_mem 905 (by rfl) (by rfl)
set_option maxRecDepth 100000 in
theorem m907 : Cond.instanceMethod yX6_both ∈ TB := TB_mem 907 (by rfl) (by rfl)
set_option maxRecDepth 100000 in
theorem m908 : Cond.code yX6_both cX6_both 4 none ∈ TB := TB_mem 908 (by rfl) (by rfl)
set_option maxRecDepth 100000 in
theorem m909 : Cond.methodLink RX6 206 yX6_add ∈ TB := TB_mem 909 (by rfl) (by rfl)
set_option maxRecDepth 100000 in
theorem m911 : Cond.instanceMethod yX6_add ∈ TB := TB_mem 911 (by rfl) (by rfl)
set_option maxRecDepth 100000 in
theorem m912 : Cond.code yX6_add cX6_add 4 none ∈ TB := TB_mem 912 (by rfl) (by rfl)
set_option maxRecDepth 100000 in
theorem m913 : Cond.methodLink RX6 200 yX6_copy ∈ TB := TB_mem 913 (by rfl) (by rfl)
set_option maxRecDepth 100000 in
theorem m915 : Cond.instanceMethod yX6_copy ∈ TB := TB_mem 915 (by rfl) (by rfl)
set_option maxRecDepth 100000 in
theorem m916 : Cond.code yX6_copy cX6_copy 4 (some .int) ∈ TB := TB_mem 916 (by rfl) (by rfl)
set_option maxRecDepth 100000 in
theorem m917 : Cond.methodLink RX6 213 yX6_joins ∈ TB := TB_mem 917 (by rfl) (by rfl)
set_option maxRecDepth 100000 in
theorem m919 : Cond.instanceMethod yX6_joins ∈ TB := TB_mem 919 (by rfl) (by rfl)
set_option maxRecDepth 100000 in
theorem m920 : Cond.code yX6_joins cX6_joins 8 none ∈ TB := TB_mem 920 (by rfl) (by rfl)
set_option maxRecDepth 100000 in
theorem m921 : Cond.methodLink RX6 216 yX6_folds ∈ TB := TB_mem 921 (by rfl) (by rfl)
set_option maxRecDepth 100000 in
theorem m923 : Cond.instanceMethod yX6_folds ∈ TB := TB_mem 923 (by rfl) (by rfl)
set_option maxRecDepth 100000 in
theorem m924 : Cond.code yX6_folds cX6_folds 6 none ∈ TB := TB_mem 924 (by rfl) (by rfl)
set_option maxRecDepth 100000 in
theorem m925 : Cond.methodLink RX6 219 yX6_has ∈ TB := TB_mem 925 (by rfl) (by rfl)
set_option maxRecDepth 100000 in
theorem m927 : Cond.instanceMethod yX6_has ∈ TB := TB_mem 927 (by rfl) (by rfl)
set_option maxRecDepth 100000 in
theorem m928 : Cond.code yX6_has cX6_has 6 (some .boolean) ∈ TB := TB_mem 928 (by rfl) (by rfl)
set_option maxRecDepth 100000 in
theorem m929 : Cond.methodLink RL 53 yX6_member ∈ TB := TB_mem 929 (by rfl) (by rfl)
set_option maxRecDepth 100000 in
theorem m930 : Cond.instanceMethod yX6_member ∈ TB := TB_mem 930 (by rfl) (by rfl)
set_option maxRecDepth 100000 in
theorem m931 : Cond.selects RX6 yX6_member yX6_member ∈ TB := TB_mem 931 (by rfl) (by rfl)
set_option maxRecDepth 100000 in
theorem m932 : Cond.code yX6_member cX6_member 3 (some .int) ∈ TB := TB_mem 932 (by rfl) (by rfl)
set_option maxRecDepth 100000 in
theorem m933 : Cond.methodLink RL 57 yX6_worked ∈ TB := TB_mem 933 (by rfl) (by rfl)
set_option maxRecDepth 100000 in
theorem m934 : Cond.instanceMethod yX6_worked ∈ TB := TB_mem 934 (by rfl) (by rfl)
set_option maxRecDepth 100000 in
theorem m935 : Cond.selects RX6 yX6_worked yX6_worked ∈ TB := TB_mem 935 (by rfl) (by rfl)
set_option maxRecDepth 100000 in
theorem m936 : Cond.code yX6_worked cX6_worked 2 (some .int) ∈ TB := TB_mem 936 (by rfl) (by rfl)
set_option maxRecDepth 100000 in
theorem m937 : Cond.methodLink RL 61 yX6_fits ∈ TB := TB_mem 937 (by rfl) (by rfl)
set_option maxRecDepth 100000 in
theorem m938 : Cond.instanceMethod yX6_fits ∈ TB := TB_mem 938 (by rfl) (by rfl)
set_option maxRecDepth 100000 in
theorem m939 : Cond.selects RX6 yX6_fits yX6_fits ∈ TB := TB_mem 939 (by rfl) (by rfl)
set_option maxRecDepth 100000 in
theorem m940 : Cond.code yX6_fits cX6_fits 3 (some .int) ∈ TB := TB_mem 940 (by rfl) (by rfl)
set_option maxRecDepth 100000 in
theorem m941 : Cond.constantLong RX6 244 (17) ∈ TB := TB_mem 941 (by rfl) (by rfl)
set_option maxRecDepth 100000 in
theorem m942 : Cond.methodLink RX6 246 yX6_stands ∈ TB := TB_mem 942 (by rfl) (by rfl)
set_option maxRecDepth 100000 in
theorem m944 : Cond.instanceMethod yX6_stands ∈ TB := TB_mem 944 (by rfl) (by rfl)
set_option maxRecDepth 100000 in
theorem m946 : Cond.methodLink RX6 238 yX6_isOf ∈ TB := TB_mem 946 (by rfl) (by rfl)
set_option maxRecDepth 100000 in
theorem m947 : Cond.static yX6_isOf ∈ TB := TB_mem 947 (by rfl) (by rfl)
set_option maxRecDepth 100000 in
theorem m948 : Cond.code yX6_isOf cX6_isOf 2 (some .boolean) ∈ TB := TB_mem 948 (by rfl) (by rfl)
set_option maxRecDepth 100000 in
theorem m949 : Cond.methodLink RX6 241 yX6_isFold ∈ TB := TB_mem 949 (by rfl) (by rfl)
set_option maxRecDepth 100000 in
theorem m951 : Cond.instanceMethod yX6_isFold ∈ TB := TB_mem 951 (by rfl) (by rfl)
set_option maxRecDepth 100000 in
theorem m952 : Cond.code yX6_isFold cX6_isFold 4 (some .boolean) ∈ TB := TB_mem 952 (by rfl) (by rfl)
set_option maxRecDepth 100000 in
theorem m953 : Cond.methodLink RL 65 yX6_rewrite ∈ TB := TB_mem 953 (by rfl) (by rfl)
set_option maxRecDepth 100000 in
theorem m954 : Cond.instanceMethod yX6_rewrite ∈ TB := TB_mem 954 (by rfl) (by rfl)
set_option maxRecDepth 100000 in
theorem m955 : Cond.selects RX6 yX6_rewrite yX6_rewrite ∈ TB := TB_mem 955 (by rfl) (by rfl)
set_option maxRecDepth 100000 in
theorem m956 : Cond.code yX6_rewrite cX6_rewrite 3 (some .int) ∈ TB := TB_mem 956 (by rfl) (by rfl)
set_option maxRecDepth 100000 in
theorem m957 : Cond.methodLink RX6 261 yX6_hasRoom ∈ TB := TB_mem 957 (by rfl) (by rfl)
set_option maxRecDepth 100000 in
theorem m959 : Cond.instanceMethod yX6_hasRoom ∈ TB := TB_mem 959 (by rfl) (by rfl)
set_option maxRecDepth 100000 in
theorem m960 : Cond.code yX6_hasRoom cX6_hasRoom 4 (some .boolean) ∈ TB := TB_mem 960 (by rfl) (by rfl)
set_option maxRecDepth 100000 in
theorem m961 : Cond.methodLink RX6 255 yX6_news ∈ TB := TB_mem 961 (by rfl) (by rfl)
set_option maxRecDepth 100000 in
theorem m962 : Cond.static yX6_news ∈ TB := TB_mem 962 (by rfl) (by rfl)
set_option maxRecDepth 100000 in
theorem m963 : Cond.code yX6_news cX6_news 1 (some .int) ∈ TB := TB_mem 963 (by rfl) (by rfl)
set_option maxRecDepth 100000 in
theorem m964 : Cond.constantLong RX6 249 (10) ∈ TB := TB_mem 964 (by rfl) (by rfl)
set_option maxRecDepth 100000 in
theorem m965 : Cond.constantLong RX6 251 (13) ∈ TB := TB_mem 965 (by rfl) (by rfl)
set_option maxRecDepth 100000 in
theorem m966 : Cond.constantLong RX6 253 (15) ∈ TB := TB_mem 966 (by rfl) (by rfl)
set_option maxRecDepth 100000 in
theorem m967 : Cond.methodLink RX6 264 yX6_rewrites ∈ TB := TB_mem 967 (by rfl) (by rfl)
set_option maxRecDepth 100000 in
theorem m969 : Cond.instanceMethod yX6_rewrites ∈ TB := TB_mem 969 (by rfl) (by rfl)
set_option maxRecDepth 100000 in
theorem m971 : Cond.methodLink RL 69 yX6_sweep ∈ TB := TB_mem 971 (by rfl) (by rfl)
set_option maxRecDepth 100000 in
theorem m972 : Cond.instanceMethod yX6_sweep ∈ TB := TB_mem 972 (by rfl) (by rfl)
set_option maxRecDepth 100000 in
theorem m973 : Cond.selects RX6 yX6_sweep yX6_sweep ∈ TB := TB_mem 973 (by rfl) (by rfl)
set_option maxRecDepth 100000 in
theorem m974 : Cond.code yX6_sweep cX6_sweep 8 (some .int) ∈ TB := TB_mem 974 (by rfl) (by rfl)
set_option maxRecDepth 100000 in
theorem m975 : Cond.methodLink RX6 267 yX6_below ∈ TB := TB_mem 975 (by rfl) (by rfl)
set_option maxRecDepth 100000 in
theorem m977 : Cond.instanceMethod yX6_below ∈ TB := TB_mem 977 (by rfl) (by rfl)
set_option maxRecDepth 100000 in
theorem m978 : Cond.code yX6_below cX6_below 7 (some .long) ∈ TB := TB_mem 978 (by rfl) (by rfl)
set_option maxRecDepth 100000 in
theorem m979 : Cond.methodLink RX6 271 yX6_ruleFor ∈ TB := TB_mem 979 (by rfl) (by rfl)
set_option maxRecDepth 100000 in
theorem m981 : Cond.instanceMethod yX6_ruleFor ∈ TB := TB_mem 981 (by rfl) (by rfl)
set_option maxRecDepth 100000 in
theorem m982 : Cond.code yX6_ruleFor cX6_ruleFor 3 (some .int) ∈ TB := TB_mem 982 (by rfl) (by rfl)
set_option maxRecDepth 100000 in
theorem m983 : Cond.methodLink RL 73 yX6_count ∈ TB := TB_mem 983 (by rfl) (by rfl)
set_option maxRecDepth 100000 in
theorem m984 : Cond.instanceMethod yX6_count ∈ TB := TB_mem 984 (by rfl) (by rfl)
set_option maxRecDepth 100000 in
theorem m985 : Cond.selects RX6 yX6_count yX6_count ∈ TB := TB_mem 985 (by rfl) (by rfl)
set_option maxRecDepth 100000 in
theorem m986 : Cond.code yX6_count cX6_count 2 (some .int) ∈ TB := TB_mem 986 (by rfl) (by rfl)
